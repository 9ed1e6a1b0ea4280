section
-- ===== PART A: goes FIRST, ahead of the names: the tables' words, and 'selects' of the private methods out of them =====
/-- a private method of a class that the tables say can be made, by its rows of tables_1 -/
def lw_okq (q : MethodName × Nat) : Prop := (q.1.cls ≠ "java/lang/invoke/MethodHandle" ∧ q.1.cls ≠ "java/lang/invoke/VarHandle") ∧ Cond.instantiable q.1.cls q.2 ∈ tables_1 ∧ Cond.privateMethod q.1 ∈ tables_1 ∧ Cond.instanceMethod q.1 ∈ tables_1
theorem lw_p0 : lw_okq (⟨"java/lang/Throwable", "fillInStackTrace", "(I)Ljava/lang/Throwable;"⟩, 6) := ⟨⟨by decide +kernel, by decide +kernel⟩, List.mem_of_getElem? (i := 252) (by decide +kernel), List.mem_of_getElem? (i := 250) (by decide +kernel), List.mem_of_getElem? (i := 251) (by decide +kernel)⟩
theorem lw_p1 : lw_okq (⟨"HostLeague", "takesMore", "(III)Z"⟩, 6) := ⟨⟨by decide +kernel, by decide +kernel⟩, List.mem_of_getElem? (i := 16) (by decide +kernel), List.mem_of_getElem? (i := 339) (by decide +kernel), List.mem_of_getElem? (i := 340) (by decide +kernel)⟩
theorem lw_p2 : lw_okq (⟨"HostLeague", "extraOf", "(I)I"⟩, 6) := ⟨⟨by decide +kernel, by decide +kernel⟩, List.mem_of_getElem? (i := 16) (by decide +kernel), List.mem_of_getElem? (i := 351) (by decide +kernel), List.mem_of_getElem? (i := 352) (by decide +kernel)⟩
theorem lw_p3 : lw_okq (⟨"HostLeague", "checkBooking", "(I)V"⟩, 6) := ⟨⟨by decide +kernel, by decide +kernel⟩, List.mem_of_getElem? (i := 16) (by decide +kernel), List.mem_of_getElem? (i := 386) (by decide +kernel), List.mem_of_getElem? (i := 387) (by decide +kernel)⟩
theorem lw_p4 : lw_okq (⟨"HostLeague", "findInn", "(II)I"⟩, 6) := ⟨⟨by decide +kernel, by decide +kernel⟩, List.mem_of_getElem? (i := 16) (by decide +kernel), List.mem_of_getElem? (i := 392) (by decide +kernel), List.mem_of_getElem? (i := 393) (by decide +kernel)⟩
theorem lw_p5 : lw_okq (⟨"HostLeague", "putUp", "(II)V"⟩, 6) := ⟨⟨by decide +kernel, by decide +kernel⟩, List.mem_of_getElem? (i := 16) (by decide +kernel), List.mem_of_getElem? (i := 423) (by decide +kernel), List.mem_of_getElem? (i := 424) (by decide +kernel)⟩
theorem lw_p6 : lw_okq (⟨"HostLeague", "layLinen", "(I)V"⟩, 6) := ⟨⟨by decide +kernel, by decide +kernel⟩, List.mem_of_getElem? (i := 16) (by decide +kernel), List.mem_of_getElem? (i := 436) (by decide +kernel), List.mem_of_getElem? (i := 437) (by decide +kernel)⟩
theorem lw_p7 : lw_okq (⟨"HostLeague", "burnEarliest", "(III)V"⟩, 6) := ⟨⟨by decide +kernel, by decide +kernel⟩, List.mem_of_getElem? (i := 16) (by decide +kernel), List.mem_of_getElem? (i := 468) (by decide +kernel), List.mem_of_getElem? (i := 469) (by decide +kernel)⟩
theorem lw_p8 : lw_okq (⟨"HostLeagueModel", "isFine", "(I)Z"⟩, 24) := ⟨⟨by decide +kernel, by decide +kernel⟩, List.mem_of_getElem? (i := 577) (by decide +kernel), List.mem_of_getElem? (i := 673) (by decide +kernel), List.mem_of_getElem? (i := 674) (by decide +kernel)⟩
theorem lw_p9 : lw_okq (⟨"HostLeagueModel", "extraOf", "(I)I"⟩, 24) := ⟨⟨by decide +kernel, by decide +kernel⟩, List.mem_of_getElem? (i := 577) (by decide +kernel), List.mem_of_getElem? (i := 692) (by decide +kernel), List.mem_of_getElem? (i := 693) (by decide +kernel)⟩
theorem lw_p10 : lw_okq (⟨"HostLeagueModel", "finds", "(II)I"⟩, 24) := ⟨⟨by decide +kernel, by decide +kernel⟩, List.mem_of_getElem? (i := 577) (by decide +kernel), List.mem_of_getElem? (i := 700) (by decide +kernel), List.mem_of_getElem? (i := 701) (by decide +kernel)⟩
theorem lw_p11 : lw_okq (⟨"HostLeagueModel", "richest", "()I"⟩, 24) := ⟨⟨by decide +kernel, by decide +kernel⟩, List.mem_of_getElem? (i := 577) (by decide +kernel), List.mem_of_getElem? (i := 704) (by decide +kernel), List.mem_of_getElem? (i := 705) (by decide +kernel)⟩
theorem lw_p12 : lw_okq (⟨"HostLeagueModel", "isFree", "(II)Z"⟩, 24) := ⟨⟨by decide +kernel, by decide +kernel⟩, List.mem_of_getElem? (i := 577) (by decide +kernel), List.mem_of_getElem? (i := 708) (by decide +kernel), List.mem_of_getElem? (i := 709) (by decide +kernel)⟩
theorem lw_p13 : lw_okq (⟨"HostLeagueModel", "takesLinen", "(I)V"⟩, 24) := ⟨⟨by decide +kernel, by decide +kernel⟩, List.mem_of_getElem? (i := 577) (by decide +kernel), List.mem_of_getElem? (i := 715) (by decide +kernel), List.mem_of_getElem? (i := 716) (by decide +kernel)⟩
theorem lw_p14 : lw_okq (⟨"HostLeagueModel", "pointsOf", "(I)I"⟩, 24) := ⟨⟨by decide +kernel, by decide +kernel⟩, List.mem_of_getElem? (i := 577) (by decide +kernel), List.mem_of_getElem? (i := 723) (by decide +kernel), List.mem_of_getElem? (i := 724) (by decide +kernel)⟩
theorem lw_p15 : lw_okq (⟨"HostLeagueModel", "owed", "(II)I"⟩, 24) := ⟨⟨by decide +kernel, by decide +kernel⟩, List.mem_of_getElem? (i := 577) (by decide +kernel), List.mem_of_getElem? (i := 735) (by decide +kernel), List.mem_of_getElem? (i := 736) (by decide +kernel)⟩
def lw_privs_1 : List (MethodName × Nat) := [(⟨"java/lang/Throwable", "fillInStackTrace", "(I)Ljava/lang/Throwable;"⟩, 6), (⟨"HostLeague", "takesMore", "(III)Z"⟩, 6), (⟨"HostLeague", "extraOf", "(I)I"⟩, 6), (⟨"HostLeague", "checkBooking", "(I)V"⟩, 6), (⟨"HostLeague", "findInn", "(II)I"⟩, 6), (⟨"HostLeague", "putUp", "(II)V"⟩, 6), (⟨"HostLeague", "layLinen", "(I)V"⟩, 6), (⟨"HostLeague", "burnEarliest", "(III)V"⟩, 6), (⟨"HostLeagueModel", "isFine", "(I)Z"⟩, 24), (⟨"HostLeagueModel", "extraOf", "(I)I"⟩, 24), (⟨"HostLeagueModel", "finds", "(II)I"⟩, 24), (⟨"HostLeagueModel", "richest", "()I"⟩, 24), (⟨"HostLeagueModel", "isFree", "(II)Z"⟩, 24), (⟨"HostLeagueModel", "takesLinen", "(I)V"⟩, 24), (⟨"HostLeagueModel", "pointsOf", "(I)I"⟩, 24), (⟨"HostLeagueModel", "owed", "(II)I"⟩, 24)]
theorem lw_r1 : ∀ q ∈ lw_privs_1, lw_okq q := List.forall_mem_cons.mpr ⟨lw_p0, List.forall_mem_cons.mpr ⟨lw_p1, List.forall_mem_cons.mpr ⟨lw_p2, List.forall_mem_cons.mpr ⟨lw_p3, List.forall_mem_cons.mpr ⟨lw_p4, List.forall_mem_cons.mpr ⟨lw_p5, List.forall_mem_cons.mpr ⟨lw_p6, List.forall_mem_cons.mpr ⟨lw_p7, List.forall_mem_cons.mpr ⟨lw_p8, List.forall_mem_cons.mpr ⟨lw_p9, List.forall_mem_cons.mpr ⟨lw_p10, List.forall_mem_cons.mpr ⟨lw_p11, List.forall_mem_cons.mpr ⟨lw_p12, List.forall_mem_cons.mpr ⟨lw_p13, List.forall_mem_cons.mpr ⟨lw_p14, List.forall_mem_cons.mpr ⟨lw_p15, fun _ h => absurd h List.not_mem_nil⟩⟩⟩⟩⟩⟩⟩⟩⟩⟩⟩⟩⟩⟩⟩⟩
def lw_privs : List (MethodName × Nat) := lw_privs_1
def lw_tbl : List Cond := k2_sels lw_privs ++ tables_1
theorem lw_privs_ok : ∀ q ∈ lw_privs, lw_okq q := lw_r1
-- ===== end of PART A; then your names; then what follows =====
end
section
/-! ===== BEGIN words of one list among another's, by their places ===== -/
theorem goodIn_r {big : List Cond} (ws : List Cond) (ps : List Nat) (hp : ws = ps.filterMap (fun i => big[i]?)) (h : ws.all goodWord = true) : GoodIn big ws := by
  intro w hw
  have h1 := List.all_eq_true.mp h w hw
  rw [hp] at hw
  obtain ⟨i, -, hi⟩ := List.mem_filterMap.mp hw
  have hm : w ∈ big := by first | exact List.mem_of_getElem? hi | exact List.getElem?_mem hi
  exact ⟨hm, good_of_word h1⟩
theorem goodIn_app {big a b : List Cond} (ha : GoodIn big a) (hb : GoodIn big b) : GoodIn big (a ++ b) := fun w h => (List.mem_append.mp h).elim (ha w) (hb w)
theorem goodIn_ca {big a b : List Cond} {c : Cond} (ha : GoodIn big (c :: a)) (hb : GoodIn big b) : GoodIn big (c :: (a ++ b)) := fun w h => (List.mem_cons.mp h).elim (fun e => ha w (List.mem_cons.mpr (Or.inl e))) (fun h => (List.mem_append.mp h).elim (fun h => ha w (List.mem_cons.mpr (Or.inr h))) (hb w))
theorem goodIn_sub {big ws : List Cond} (hm : ∀ w ∈ ws, w ∈ big) (h : ws.all goodWord = true) : GoodIn big ws := fun w hw => ⟨hm w hw, good_of_word (List.all_eq_true.mp h w hw)⟩
/-! ===== END ===== -/

/-! ===== BEGIN exceptions that leave a method, and their catching by the caller (launches without stack traces) ===== -/
section VXA
/-! The laws vx_back, vx_callV, vx_callS, vx_callSW, vx_throw0, vx_throwS follow proofs of the library, with one case more: JvmDerived/Free/Laws.lean (Back.of_free), Shelf42/LK1.lean (callV, callS), Shelf/KitTraced.lean (throwNew0V, throwNewS). -/
/-- where a method has thrown q: the class by its name, the cell, what was written, the world -/
def vx_T (XC : String → State → State → Prop) (st : State) (q : Addr) (t : State) (mc ms : Nat) (free : Addr → Prop) : Prop :=
  ∃ (E : String) (ce : Cell) (L : List Loc), XC E st t ∧ t.heap[q]? = some ce ∧ ce.vm = .none ∧ st.vm.findClass E = some ce.cls ∧ st.WarmedH t.vm ∧ st.sameButNew ({ t with vm := st.vm } : State) L mc ms ∧ ∀ z ∈ L, free z.base
def vx_Q (Qc : Array Value → State → Outcome → State → Prop) (XC : String → State → State → Prop) (mc ms : Nat) (free : Addr → Prop) : Array Value → State → Outcome → State → Prop := fun a st o t =>
  (Qc a st o t ∧ ∃ L, FrameEnd st o t L mc ms ∧ ∀ q ∈ L, free q.base) ∨ ∃ q, o = .threw q ∧ vx_T XC st q t mc ms free
/-- a callee that returns or throws -/
def vx_Met (l : Launch) (y : MethodName) (ws : List Cond) (rm : Room) (Pc : Array Value → State → Prop) (Qc : Array Value → State → Outcome → State → Prop) (XC : String → State → State → Prop) (mc ms : Nat) (free : Addr → Prop) : Prop :=
  MetFree l y (headSpec ws rm) Pc (fun _ _ _ _ _ => True) (vx_Q Qc XC mc ms free)
def vx_Post (XC : String → State → State → Prop) (mc ms : Nat) (free : Addr → Prop) : Pt → Array Value → Addr → Pt → Prop := fun A a q B =>
  ∃ (g : JFrame) (mk : MethodId) (t : State) (L : List Loc) (E : String) (ce : Cell), B.U.heap = t.heap ∧ B.U.vm = t.vm ∧ XC E (A.U.calling g mk a) t ∧ t.heap[q]? = some ce ∧ ce.vm = .none ∧ A.U.vm.findClass E = some ce.cls ∧ B.locs = A.locs ++ L ∧ (∀ z ∈ L, free z.base) ∧ B.cells = A.cells + mc ∧ B.slots = A.slots + ms
def vx_Back (l : Launch) (R : Room) (p : Program) (e : Env) (below : List Frame) (s : State) (sargs : Array Value) (y : MethodName) (len W9 : Nat)
    (Pre : Pt → Array Value → Prop) (Post : Pt → Array Value → Option Value → Pt → Prop) (PostX : Pt → Array Value → Addr → Pt → Prop) : Prop :=
  ∀ (m : MethodId) (meth : Method) (c : Code) (A : Pt) (g : JFrame) (ig : Instr) (mk : MethodId) (a : Array Value),
    Stand p l e R s m sargs below meth c A.U A.locs A.cells A.slots → g.method = m → g.locals.size = c.maxLocals → decode c.code g.pc = .ok (ig, len) →
    2 * g.monitorRoom + (g.stack.map fun v => v.category).sum ≤ W9 → A.U.methodNamed? y = some mk → Pre A a →
    (∃ (v : Option Value) (B : Pt), Stand p l e R s m sargs below meth c B.U B.locs B.cells B.slots ∧ Post A a v B ∧
      Steps p.tables e below (doInvoke e (A.U.setTop g) [] mk a).1 (B.U.setTop { g with pc := g.pc + len, stack := v.toList ++ g.stack })) ∨
    (∃ (q : Addr) (B : Pt), Stand p l e R s m sargs below meth c B.U B.locs B.cells B.slots ∧ PostX A a q B ∧
      Steps p.tables e below (doInvoke e (A.U.setTop g) [] mk a).1 ((B.U.setTop g).pushFrame (.throwing q)))
section Payer
variable {l : Launch} {R : Room} {p : Program} {e : Env} {below : List Frame} {s : State} {sargs : Array Value} {y : MethodName} {len W9 : Nat}
theorem vx_back {ws : List Cond} {rm : Room} {Pc : Array Value → State → Prop} {Qc : Array Value → State → Outcome → State → Prop} {XC : String → State → State → Prop} {mc ms : Nat} {free : Addr → Prop} {bytes : ByteArray} {maxL : Nat} {ret : Option FieldType}
    (hM : vx_Met l y ws rm Pc Qc XC mc ms free) (hblind : FrameBlind Pc) (hrc : rm.cells = mc) (hrs : rm.slots = ms)
    (hframes : rm.frames + 1 ≤ R.frames) (hlocals : W9 + (maxL + 11) + rm.locals ≤ R.locals)
    (hws : ∀ w ∈ ws, ∀ a' U, s.WarmedH U.vm → w.before a' U = true) (hcode : Cond.code y bytes maxL ret ∈ ws) (hinit : ∀ a' U, s.WarmedH U.vm → (Cond.initialized y.cls).before a' U = true) :
    vx_Back l R p e below s sargs y len W9 (PreOf R mc ms Pc) (PostOf Qc mc ms free) (vx_Post XC mc ms free) := by
  intro m meth c A g ig mk a X hg hsize hdg hW hn hp
  have h1 : (headSpec ws rm).pre.before a A.U = true := atoms_intro fun w hw => hws w hw _ _ X.warmed
  have h2 : (Cond.code y bytes maxL ret).before a A.U = true := hws _ hcode _ _ X.warmed
  have h3 : (Cond.initialized y.cls).before a A.U = true := hinit _ _ X.warmed
  have h4 : A.cells + (headSpec ws rm).room.cells ≤ R.cells := by rw [show (headSpec ws rm).room.cells = mc from hrc]; exact hp.1
  have h5 : A.slots + (headSpec ws rm).room.slots ≤ R.slots := by rw [show (headSpec ws rm).room.slots = ms from hrs]; exact hp.2.1
  have hPc : Pc a (A.U.calling g mk a) := hblind _ _ _ _ hp.2.2
  obtain ⟨U, Ls, c0, s0⟩ := A
  dsimp only [Pt.U, Pt.locs, Pt.cells, Pt.slots] at h1 h2 h3 h4 h5 X hn hPc ⊢
  obtain ⟨methY, cY, hmY, hcY, -, hlY, -, -, -, -⟩ := Cond.code_spec hn h2
  obtain ⟨kY, hkY, -⟩ := className_of_methodNamed hn
  have hinitY : kY.init = .initialized := Cond.initialized_spec (findClass_of_methodNamed hn) hkY h3
  have h : At U g.method c below := by rw [hg]; exact X.here
  have hlocals9 : W9 + (maxL + 11) + (headSpec ws rm).room.locals ≤ R.locals := hlocals
  have happ : (headSpec ws rm).appliesLoose y e.platform (U.calling g mk a) = true :=
    Spec.appliesLoose_calling (g := g) h hdg hn hkY hinitY
      (X.room_calling (g := g) (R' := (headSpec ws rm).room) hsize hmY hcY hframes (by rw [hlY]; omega) h4 h5) h1
  obtain ⟨mid, hmid⟩ := h.above
  have hfr : (U.setTop g).frames = (.java g :: mid) ++ below := by rw [State.frames_setTop' g h.top, hmid]; rfl
  obtain ⟨o, s₂, hsteps, -, hend, hq⟩ := Steps.callFree hM p X.admits X.cas X.clock (acts := []) hfr happ hPc trivial
  have hq' : vx_Q Qc XC mc ms free a (U.calling g mk a) o s₂ := hq
  rw [State.frames_setTop' g h.top] at hend
  obtain ⟨g₀, hg0⟩ := Option.isSome_iff_exists.mp h.top
  obtain ⟨r, hr⟩ := State.topJava?_eq_some.mp hg0
  have hr' : (({ U with heap := s₂.heap, slotsUsed := s₂.slotsUsed } : State).setVm s₂.vm).frames = .java g₀ :: r := hr
  rcases hq' with ⟨hqc, L, hfe, hL⟩ | ⟨q, rfl, E, ce, L, hx, hce, hcv, hcl, hW₂, hsm, hL⟩
  · obtain ⟨⟨v, rfl⟩, hW₂, e2, q2, q3, q4, q5, q6⟩ := id hfe
    have e3 : s₂ = ({ (U.calling g mk a).setFrames s₂.frames with heap := s₂.heap, slotsUsed := s₂.slotsUsed } : State).setVm s₂.vm := by
      have : s₂ = ({ s₂ with vm := (U.calling g mk a).vm } : State).setVm s₂.vm := rfl
      rw [e2] at this
      exact this
    obtain ⟨c₂, i₂, len₂, hc₂, hd₂, hf₂⟩ := hend
    have hW' : U.WarmedH s₂.vm := hW₂
    have hcc : c₂ = c := by
      have h1 : s₂.code? g.method = U.code? g.method := by
        rw [State.code?_eq, State.code?_eq, hW'.alike.method?]
      exact Option.some.inj (hc₂.symm.trans (h1.trans h.code))
    subst hcc
    have hlen : len₂ = len := by rw [hdg] at hd₂; cases hd₂; rfl
    subst hlen
    have hs₂ : s₂ = (({ U with heap := s₂.heap, slotsUsed := s₂.slotsUsed } : State).setVm s₂.vm).setTop { g with pc := g.pc + len₂, stack := v.toList ++ g.stack } := by
      refine e3.trans ?_
      rw [hf₂, State.calling_eq h.top, State.setFrames_setFrames, State.setTop_of_frames _ hr', hr]
      rfl
    have hsame : U.sameButNew ({ U with heap := s₂.heap, slotsUsed := s₂.slotsUsed } : State) L mc ms := by
      refine ⟨?_, q2, q3, q4, q5, q6⟩
      obtain ⟨t, ht, -⟩ := State.frames_cons hr
      show ({ U with heap := s₂.heap, slotsUsed := s₂.slotsUsed } : State) = { U.setFrames U.frames with heap := s₂.heap, slotsUsed := s₂.slotsUsed }
      rw [State.setFrames_self ht]
    subst hg
    refine Or.inl ⟨v, ⟨(({ U with heap := s₂.heap, slotsUsed := s₂.slotsUsed } : State).setVm s₂.vm), Ls ++ L, c0 + mc, s0 + ms⟩,
      ⟨X.admits, X.cas, X.clock, X.frames, X.room, X.hears, X.method, X.code, (X.here.setHeapUsed s₂.heap s₂.slotsUsed).setVm hW'.alike, X.tail, State.WarmedH.trans X.warmed hW', X.limits, X.bytes, X.same.trans (hsame.setVm s.vm)⟩,
      ⟨g, mk, s₂, L, rfl, rfl, hqc, rfl, hL, rfl, rfl⟩, ?_⟩
    show Steps p.tables e below _ ((({ U with heap := s₂.heap, slotsUsed := s₂.slotsUsed } : State).setVm s₂.vm).setTop { g with pc := g.pc + len₂, stack := v.toList ++ g.stack })
    rw [← hs₂]
    exact hsteps
  · obtain ⟨e2, q2, q3, q4, q5, q6⟩ := id hsm
    have e3 : s₂ = ({ (U.calling g mk a).setFrames s₂.frames with heap := s₂.heap, slotsUsed := s₂.slotsUsed } : State).setVm s₂.vm := by
      have : s₂ = ({ s₂ with vm := (U.calling g mk a).vm } : State).setVm s₂.vm := rfl
      rw [e2] at this
      exact this
    have hf₂ : s₂.frames = .throwing q :: .java g :: U.frames.tail := hend
    have hW' : U.WarmedH s₂.vm := hW₂
    have hs₂ : s₂ = ((({ U with heap := s₂.heap, slotsUsed := s₂.slotsUsed } : State).setVm s₂.vm).setTop g).pushFrame (.throwing q) := by
      refine e3.trans ?_
      rw [hf₂, State.calling_eq h.top, State.setFrames_setFrames, State.pushFrame, State.frames_setTop _ hr', State.setTop_of_frames _ hr', State.setFrames_setFrames, hr]
      rfl
    have hsame : U.sameButNew ({ U with heap := s₂.heap, slotsUsed := s₂.slotsUsed } : State) L mc ms := by
      refine ⟨?_, q2, q3, q4, q5, q6⟩
      obtain ⟨t, ht, -⟩ := State.frames_cons hr
      show ({ U with heap := s₂.heap, slotsUsed := s₂.slotsUsed } : State) = { U.setFrames U.frames with heap := s₂.heap, slotsUsed := s₂.slotsUsed }
      rw [State.setFrames_self ht]
    subst hg
    refine Or.inr ⟨q, ⟨(({ U with heap := s₂.heap, slotsUsed := s₂.slotsUsed } : State).setVm s₂.vm), Ls ++ L, c0 + mc, s0 + ms⟩,
      ⟨X.admits, X.cas, X.clock, X.frames, X.room, X.hears, X.method, X.code, (X.here.setHeapUsed s₂.heap s₂.slotsUsed).setVm hW'.alike, X.tail, State.WarmedH.trans X.warmed hW', X.limits, X.bytes, X.same.trans (hsame.setVm s.vm)⟩,
      ⟨g, mk, s₂, L, E, ce, rfl, rfl, hx, hce, hcv, hcl, rfl, hL, rfl, rfl⟩, ?_⟩
    show Steps p.tables e below _ (((({ U with heap := s₂.heap, slotsUsed := s₂.slotsUsed } : State).setVm s₂.vm).setTop g).pushFrame (.throwing q))
    rw [← hs₂]
    exact hsteps
end Payer
section Calls
variable {p : Program} {l : Launch} {e : Env} {R : Room} {s : State} {m : MethodId} {args : Array Value} {below : List Frame} {meth : Method} {c : Code} {T : State} {locs : List Loc} {cells slots : Nat}
theorem vx_callV (X : Stand p l e R s m args below meth c T locs cells slots) (hexec : p.tables.exec = Jvm.exec) {own C : String} {index : Nat} {y : MethodName} {bytes : ByteArray} {maxL : Nat} {ret : Option FieldType}
    (hown : s.vm.findClass own = some m.cls) (hlink : (Cond.methodLink own index y).before args s = true) (hinst : (Cond.instanceMethod y).before args s = true) (hsel : (Cond.selects C y y).before args s = true)
    (hcode : (Cond.code y bytes maxL ret).before args s = true) (hy : y.cls ≠ "java/lang/invoke/MethodHandle" ∧ y.cls ≠ "java/lang/invoke/VarHandle")
    {W9 : Nat} {Pre : Pt → Array Value → Prop} {Post : Pt → Array Value → Option Value → Pt → Prop} {PostX : Pt → Array Value → Addr → Pt → Prop} (hK : vx_Back l R p e below s args y 3 W9 Pre Post PostX)
    {b : Addr} {cellB : Cell} (hcell : T.heap[b]? = some cellB) (hobj : cellB.vm.isStatics = false) (hcls : s.vm.findClass C = some cellB.cls)
    {g : JFrame} (hg : g.method = m) (hsize : g.locals.size = c.maxLocals) {argsL rest : List Value} (hlen : ∀ sig, parseMethodDescriptor y.desc = some sig → argsL.length = sig.parameters.length)
    (hstack : g.stack = argsL.reverse ++ .ref b :: rest) (hW : 2 * g.monitorRoom + (rest.map fun v => v.category).sum ≤ W9) (hdg : decode c.code g.pc = .ok (.invokevirtual index, 3))
    (hpre : ∀ vm₁, s.WarmedH vm₁ → Pre ⟨T.setVm vm₁, locs, cells, slots⟩ (Value.ref b :: argsL).toArray) :
    (∃ (v : Option Value) (vm₁ : Vm) (B : Pt), s.WarmedH vm₁ ∧ Stand p l e R s m args below meth c B.U B.locs B.cells B.slots ∧ Post ⟨T.setVm vm₁, locs, cells, slots⟩ (Value.ref b :: argsL).toArray v B ∧
      ∀ target, Steps p.tables e below (B.U.setTop { g with pc := g.pc + 3, stack := v.toList ++ rest }) target → Steps p.tables e below (T.setTop g) target) ∨
    (∃ (q : Addr) (vm₁ : Vm) (B : Pt), s.WarmedH vm₁ ∧ Stand p l e R s m args below meth c B.U B.locs B.cells B.slots ∧ PostX ⟨T.setVm vm₁, locs, cells, slots⟩ (Value.ref b :: argsL).toArray q B ∧
      Steps p.tables e below (T.setTop g) ((B.U.setTop { g with stack := rest }).pushFrame (.throwing q))) := by
  obtain ⟨mk, methM, hnamed, hmethM, hstM, habM⟩ := Cond.instanceMethod_spec hinst
  obtain ⟨methM', cM, hmethM', -, -, -, -, -, -, hsigM⟩ := Cond.code_spec hnamed hcode
  cases hmethM.symm.trans hmethM'
  obtain ⟨c2, r2, m2, q1, q2, q3, q4, kP, hkP, hkPi⟩ := Cond.selects_spec hsel
  cases hcls.symm.trans q1
  cases (State.methodFound?_of_named hnamed hy).symm.trans q2
  cases hnamed.symm.trans q3
  have hselP : selectMethod e.platform s.vm cellB.cls mk = .method mk := by rw [Launch.admits_selectMethod X.admits]; exact q4
  obtain ⟨vm₁, X₁, hstep₁⟩ := X.invokevirtual hexec hown hlink hnamed hmethM hstM hkP hkPi hy (a := b) (cell := cellB) hcell
    (fun z h => by rw [h] at hobj; cases hobj) hselP hmethM habM hkP hkPi (g := g) hg (argsL := argsL) (rest := rest) (hlen _ hsigM) hstack hdg
  rcases hK m meth c ⟨T.setVm vm₁, locs, cells, slots⟩ { g with stack := rest } (.invokevirtual index) mk (Value.ref b :: argsL).toArray X₁ hg hsize hdg hW (X₁.named hnamed) (hpre vm₁ X₁.warmed) with ⟨v, B, X', hpost, hsteps⟩ | ⟨q, B, X', hpost, hsteps⟩
  · exact Or.inl ⟨v, vm₁, B, X₁.warmed, X', hpost, fun target h => hstep₁ _ fun acts => by rw [doInvoke_state]; exact hsteps.trans h⟩
  · exact Or.inr ⟨q, vm₁, B, X₁.warmed, X', hpost, hstep₁ _ fun acts => by rw [doInvoke_state]; exact hsteps⟩
theorem vx_callS (X : Stand p l e R s m args below meth c T locs cells slots) (hexec : p.tables.exec = Jvm.exec) {own : String} {index : Nat} {y : MethodName} {bytes : ByteArray} {maxL : Nat} {ret : Option FieldType}
    (hown : s.vm.findClass own = some m.cls) (hlink : (Cond.methodLink own index y).before args s = true) (hstat : (Cond.static y).before args s = true) (hinit : (Cond.initialized y.cls).before args s = true)
    (hcode : (Cond.code y bytes maxL ret).before args s = true) (hy : y.cls ≠ "java/lang/invoke/MethodHandle" ∧ y.cls ≠ "java/lang/invoke/VarHandle")
    {W9 : Nat} {Pre : Pt → Array Value → Prop} {Post : Pt → Array Value → Option Value → Pt → Prop} {PostX : Pt → Array Value → Addr → Pt → Prop} (hK : vx_Back l R p e below s args y 3 W9 Pre Post PostX)
    {g : JFrame} (hg : g.method = m) (hsize : g.locals.size = c.maxLocals) {argsL rest : List Value} (hlen : ∀ sig, parseMethodDescriptor y.desc = some sig → argsL.length = sig.parameters.length)
    (hstack : g.stack = argsL.reverse ++ rest) (hW : 2 * g.monitorRoom + (rest.map fun v => v.category).sum ≤ W9) (hdg : decode c.code g.pc = .ok (.invokestatic index, 3))
    (hpre : ∀ vm₁, s.WarmedH vm₁ → Pre ⟨T.setVm vm₁, locs, cells, slots⟩ argsL.toArray) :
    (∃ (v : Option Value) (vm₁ : Vm) (B : Pt), s.WarmedH vm₁ ∧ Stand p l e R s m args below meth c B.U B.locs B.cells B.slots ∧ Post ⟨T.setVm vm₁, locs, cells, slots⟩ argsL.toArray v B ∧
      ∀ target, Steps p.tables e below (B.U.setTop { g with pc := g.pc + 3, stack := v.toList ++ rest }) target → Steps p.tables e below (T.setTop g) target) ∨
    (∃ (q : Addr) (vm₁ : Vm) (B : Pt), s.WarmedH vm₁ ∧ Stand p l e R s m args below meth c B.U B.locs B.cells B.slots ∧ PostX ⟨T.setVm vm₁, locs, cells, slots⟩ argsL.toArray q B ∧
      Steps p.tables e below (T.setTop g) ((B.U.setTop { g with stack := rest }).pushFrame (.throwing q))) := by
  obtain ⟨mk, hnamed⟩ := Cond.code_named hcode
  obtain ⟨methM, cM, hmethM, -, -, -, -, -, -, hsigM⟩ := Cond.code_spec hnamed hcode
  have hstatic : methM.isStatic = true := Cond.static_spec hnamed hmethM hstat
  obtain ⟨kP, hkP, -⟩ := className_of_methodNamed hnamed
  have hinitP : kP.init = .initialized := Cond.initialized_spec (findClass_of_methodNamed hnamed) hkP hinit
  obtain ⟨vm₁, X₁, hstep₁⟩ := X.invokestatic hexec hown hlink hnamed hmethM hstatic hkP hinitP hy (g := g) hg (argsL := argsL) (rest := rest) (hlen _ hsigM) hstack hdg
  rcases hK m meth c ⟨T.setVm vm₁, locs, cells, slots⟩ { g with stack := rest } (.invokestatic index) mk argsL.toArray X₁ hg hsize hdg hW (X₁.named hnamed) (hpre vm₁ X₁.warmed) with ⟨v, B, X', hpost, hsteps⟩ | ⟨q, B, X', hpost, hsteps⟩
  · exact Or.inl ⟨v, vm₁, B, X₁.warmed, X', hpost, fun target h => hstep₁ _ fun acts => by rw [doInvoke_state]; exact hsteps.trans h⟩
  · exact Or.inr ⟨q, vm₁, B, X₁.warmed, X', hpost, hstep₁ _ fun acts => by rw [doInvoke_state]; exact hsteps⟩
end Calls
theorem vx_cls {s : State} {T : State} {vm₁ : Vm} {E : String} {k : ClassId} (hW : s.WarmedH vm₁) (h : (T.setVm vm₁).vm.findClass E = some k) : s.vm.findClass E = some k := by
  have h1 : vm₁.findClass E = some k := h
  rw [hW.alike.findClass] at h1
  exact h1
/-- the method's frame g, with q thrown over it -/
def vx_W (p : Program) (l : Launch) (e : Env) (R : Room) (s : State) (m : MethodId) (args : Array Value) (below : List Frame) (meth : Method) (c : Code) (H : Heap) (locs : List Loc) (cells slots : Nat) (Q : State → Prop) (g : JFrame) (q : Addr) : Prop :=
  ∀ T : State, T.heap = H → Stand p l e R s m args below meth c T locs cells slots → ∃ t, Steps p.tables e below ((T.setTop g).pushFrame (.throwing q)) t ∧ Q t
def vx_Run (p : Program) (l : Launch) (e : Env) (R : Room) (s : State) (m : MethodId) (args : Array Value) (below : List Frame) (meth : Method) (c : Code) (H : Heap) (locs : List Loc) (cells slots mc ms : Nat) (g : JFrame) (rest : List Value) (Qa : State → Outcome → State → Prop) (XC : String → State → State → Prop) (free : Addr → Prop) : Prop :=
  ∀ T : State, T.heap = H → Stand p l e R s m args below meth c T locs cells slots →
    (∃ (v : Option Value) (st₀ t T' : State) (L : List Loc), st₀.heap = H ∧ Stand p l e R s m args below meth c T' (locs ++ L) (cells + mc) (slots + ms) ∧ (∀ q ∈ L, free q.base) ∧ T'.heap = t.heap ∧ T'.vm = t.vm ∧ Qa st₀ (.returned v) t ∧
      Goes p e below T g T' { g with pc := g.pc + 3, stack := v.toList ++ rest }) ∨
    (∃ (q : Addr) (st₀ t T' : State) (L : List Loc) (E : String) (ce : Cell), st₀.heap = H ∧ Stand p l e R s m args below meth c T' (locs ++ L) (cells + mc) (slots + ms) ∧ (∀ z ∈ L, free z.base) ∧ T'.heap = t.heap ∧ T'.vm = t.vm ∧ XC E st₀ t ∧ t.heap[q]? = some ce ∧ ce.vm = .none ∧ s.vm.findClass E = some ce.cls ∧
      Steps p.tables e below (T.setTop g) ((T'.setTop { g with stack := rest }).pushFrame (.throwing q)))
def vx_X {S : Type} (px : S → Prop) (B : String → S → State → Prop) (A : Nat → Prop) : String → State → State → Prop := fun E st t => ∃ u : S, px u ∧ B E u t ∧ va_F A st t
section Runs
variable {p : Program} {l : Launch} {e : Env} {R : Room} {s : State} {m : MethodId} {args : Array Value} {below : List Frame} {meth : Method} {c : Code} {H : Heap} {locs : List Loc} {cells slots : Nat}
variable {y : MethodName} {bytes cc : ByteArray} {maxL nL mc ms n index : Nat} {ret : Option FieldType} {ws : List Cond} {rm : Room} {Pc : Array Value → State → Prop} {Qc : Array Value → State → Outcome → State → Prop} {XC : String → State → State → Prop} {free : Addr → Prop} {Ts : List Cond} {own C : String} {b : Addr} {As rest : List Value} {g : JFrame}
theorem vx_callBack (cb : CallB R s args own index y bytes maxL ret ws rm mc ms n) (hM : vx_Met l y ws rm Pc Qc XC mc ms free) (hbl : FrameBlind Pc) : vx_Back l R p e below s args y 3 8 (PreOf R mc ms Pc) (PostOf Qc mc ms free) (vx_Post XC mc ms free) := by
  obtain ⟨hrc, hrs, hfr, hlo, hws, hcw, -, hini, -⟩ := cb
  exact vx_back (bytes := bytes) (maxL := maxL) (ret := ret) hM hbl hrc hrs hfr hlo hws hcw (fun a' U hW => word_at hW (Or.inl (by first | rfl | simp [Cond.onTables, Cond.keeps, Cond.steady])) hini)
theorem vx_runV (S : CallFix p m c cc nL s args Ts own) (hM : vx_Met l y ws rm Pc Qc XC mc ms free) (cw : CallW R s args own C index y bytes maxL ret ws rm mc ms n) (hp : PreV s H C b Pc As)
    (hg : g.method = m) (hn : As.length = n) (hsize : g.locals.size = nL) (hstack : g.stack = As.reverse ++ .ref b :: rest) (hW : 2 * g.monitorRoom + (rest.map fun v => v.category).sum ≤ 8) (hdg : decode cc g.pc = .ok (.invokevirtual index, 3)) (hf : cells + mc ≤ R.cells ∧ slots + ms ≤ R.slots) :
    vx_Run p l e R s m args below meth c H locs cells slots mc ms g rest (Qc (Value.ref b :: As).toArray) XC free := by
  have hK : vx_Back l R p e below s args y 3 8 (PreOf R mc ms Pc) (PostOf Qc mc ms free) (vx_Post XC mc ms free) := vx_callBack cw.1 hM hp.1
  obtain ⟨⟨-, -, -, -, -, -, hcode, -, hy, hlen, hl⟩, hin, hse⟩ := cw
  obtain ⟨hx, hb, hml, ho, -⟩ := S
  obtain ⟨-, ⟨cellB, hcB, hoB, hclB⟩, hPc⟩ := hp
  intro T hT X
  rcases vx_callV X hx (C := C) (bytes := bytes) (maxL := maxL) (ret := ret) ho hl hin hse hcode hy hK (by rw [hT]; exact hcB) hoB hclB hg (hsize.trans hml.symm) (argsL := As) (rest := rest) (fun sig h => hn.trans (hlen sig h)) hstack hW (by rw [hb]; exact hdg)
    (fun vm₁ hW₁ => ⟨hf.1, hf.2, hPc (T.setVm vm₁) hT hW₁⟩) with ⟨v, vm₁, ⟨U', l2, c2, s2⟩, hW₁, X', ⟨g', mk, t, L, e1, e2, hq, h1, hL, h2, h3⟩, st⟩ | ⟨q, vm₁, ⟨U', l2, c2, s2⟩, hW₁, X', ⟨g', mk, t, L, E, ce, e1, e2, hq, hce, hcv, hcl, h1, hL, h2, h3⟩, st⟩
  · dsimp only [Pt.U, Pt.locs, Pt.cells, Pt.slots] at X' e1 e2 h1 h2 h3 st
    subst h1; subst h2; subst h3
    exact Or.inl ⟨v, (T.setVm vm₁).calling g' mk (Value.ref b :: As).toArray, t, U', L, hT, X', hL, e1, e2, hq, st⟩
  · dsimp only [Pt.U, Pt.locs, Pt.cells, Pt.slots] at X' e1 e2 h1 h2 h3 st hcl
    subst h1; subst h2; subst h3
    exact Or.inr ⟨q, (T.setVm vm₁).calling g' mk (Value.ref b :: As).toArray, t, U', L, E, ce, hT, X', hL, e1, e2, hq, hce, hcv, vx_cls hW₁ hcl, st⟩
theorem vx_runS (S : CallFix p m c cc nL s args Ts own) (hM : vx_Met l y ws rm Pc Qc XC mc ms free) (cw : CallB R s args own index y bytes maxL ret ws rm mc ms n ∧ (Cond.static y).before args s = true) (hp : PreS s H Pc As)
    (hg : g.method = m) (hn : As.length = n) (hsize : g.locals.size = nL) (hstack : g.stack = As.reverse ++ rest) (hW : 2 * g.monitorRoom + (rest.map fun v => v.category).sum ≤ 8) (hdg : decode cc g.pc = .ok (.invokestatic index, 3)) (hf : cells + mc ≤ R.cells ∧ slots + ms ≤ R.slots) :
    vx_Run p l e R s m args below meth c H locs cells slots mc ms g rest (Qc As.toArray) XC free := by
  have hK : vx_Back l R p e below s args y 3 8 (PreOf R mc ms Pc) (PostOf Qc mc ms free) (vx_Post XC mc ms free) := vx_callBack cw.1 hM hp.1
  obtain ⟨⟨-, -, -, -, -, -, hcode, hini, hy, hlen, hl⟩, hstt⟩ := cw
  obtain ⟨hx, hb, hml, ho, -⟩ := S
  intro T hT X
  rcases vx_callS X hx (bytes := bytes) (maxL := maxL) (ret := ret) ho hl hstt hini hcode hy hK hg (hsize.trans hml.symm) (argsL := As) (rest := rest) (fun sig h => hn.trans (hlen sig h)) hstack hW (by rw [hb]; exact hdg)
    (fun vm₁ hW₁ => ⟨hf.1, hf.2, hp.2 (T.setVm vm₁) hT hW₁⟩) with ⟨v, vm₁, ⟨U', l2, c2, s2⟩, hW₁, X', ⟨g', mk, t, L, e1, e2, hq, h1, hL, h2, h3⟩, st⟩ | ⟨q, vm₁, ⟨U', l2, c2, s2⟩, hW₁, X', ⟨g', mk, t, L, E, ce, e1, e2, hq, hce, hcv, hcl, h1, hL, h2, h3⟩, st⟩
  · dsimp only [Pt.U, Pt.locs, Pt.cells, Pt.slots] at X' e1 e2 h1 h2 h3 st
    subst h1; subst h2; subst h3
    exact Or.inl ⟨v, (T.setVm vm₁).calling g' mk As.toArray, t, U', L, hT, X', hL, e1, e2, hq, st⟩
  · dsimp only [Pt.U, Pt.locs, Pt.cells, Pt.slots] at X' e1 e2 h1 h2 h3 st hcl
    subst h1; subst h2; subst h3
    exact Or.inr ⟨q, (T.setVm vm₁).calling g' mk As.toArray, t, U', L, E, ce, hT, X', hL, e1, e2, hq, hce, hcv, vx_cls hW₁ hcl, st⟩
end Runs
section Rows
variable {p : Program} {l : Launch} {e : Env} {R : Room} {s : State} {m : MethodId} {args : Array Value} {below : List Frame} {meth : Method} {c : Code} {H : Heap} {locs : List Loc} {cells slots : Nat} {Q : State → Prop}
variable {mc ms : Nat} {free : Addr → Prop} {A0 A1 : Nat → Prop} {H0 : Heap} {a : Array Value} {pc : Nat} {ls : Array Slot} {st0 rest : List Value}
theorem vx_keep {st₀ t T' : State} {L : List Loc} (h0 : st₀.heap = H) (e1 : T'.heap = t.heap) (hS : va_S A0 H0 H locs) (hA : ∀ q, q < H.size → A1 q → A0 q) (hf : ∀ q, free q → A0 q) (hL : ∀ q ∈ L, free q.base) (hF : va_F A1 st₀ t) :
    H.size ≤ T'.heap.size ∧ (∀ q : Nat, q < H.size → ¬ A1 q → T'.heap[q]? = H[q]?) ∧ va_S A0 H0 T'.heap (locs ++ L) := by
  obtain ⟨hz, hk⟩ := hF
  rw [h0] at hz hk
  exact ⟨by rw [e1]; exact hz, fun q h1 h2 => by rw [e1]; exact hk q h1 h2,
    ⟨Nat.le_trans hS.1 (by rw [e1]; exact hz), fun q h1 h2 => by rw [e1, hk q (Nat.lt_of_lt_of_le h1 hS.1) (fun z => h2 (hA q (Nat.lt_of_lt_of_le h1 hS.1) z))]; exact hS.2.1 q h1 h2, fun q hq => by
      rcases List.mem_append.mp hq with h | h
      · exact hS.2.2 q h
      · exact hf _ (hL q h)⟩⟩
theorem vx_calli {S SX : Type} {post : Int32 → S → Prop} {px : SX → Prop} {B : S → State → Prop} {BX : String → SX → State → Prop} {AX : Nat → Prop} (hr : vx_Run p l e R s m args below meth c H locs cells slots mc ms (F0 m pc ls st0) rest (va_Qi post B A1 a) (vx_X px BX AX) free) (hS : va_S A0 H0 H locs) (hA : ∀ q, q < H.size → A1 q → A0 q) (hf : ∀ q, free q → A0 q) (hAX : ∀ q, q < H.size → AX q → A0 q)
    (kx : ∀ (E : String) (ce : Cell) (q9 : Addr) (u : SX) (t : State) (H1 : Heap) (locs1 : List Loc), t.heap = H1 → s.vm.Alike t.vm → px u → BX E u t → H.size ≤ H1.size → (∀ q : Nat, q < H.size → ¬ AX q → H1[q]? = H[q]?) → va_S A0 H0 H1 locs1 → H1[q9]? = some ce → ce.vm = .none → s.vm.findClass E = some ce.cls → vx_W p l e R s m args below meth c H1 locs1 (cells + mc) (slots + ms) Q (F0 m pc ls rest) q9)
    (kk : ∀ (r : Int32) (u : S) (t : State) (H1 : Heap) (locs1 : List Loc), t.heap = H1 → s.vm.Alike t.vm → post r u → B u t → H.size ≤ H1.size → (∀ q : Nat, q < H.size → ¬ A1 q → H1[q]? = H[q]?) → va_S A0 H0 H1 locs1 → W p l e R s m args below meth c H1 locs1 (cells + mc) (slots + ms) Q (F0 m (pc + 3) ls (.int r :: rest))) : W p l e R s m args below meth c H locs cells slots Q (F0 m pc ls st0) := by
  intro T hT X
  rcases hr T hT X with ⟨v, st₀, t, T', L, h0, X', hL, e1, e2, ⟨⟨r, u, hv, hp, hb⟩, hF⟩, st⟩ | ⟨q, st₀, t, T', L, E, ce, h0, X', hL, e1, e2, ⟨u, hp, hb, hF⟩, hce, hcv, hcl, st⟩
  · cases hv
    obtain ⟨k1, k2, k3⟩ := vx_keep h0 e1 hS hA hf hL hF
    obtain ⟨t2, a1, b1⟩ := kk r u t T'.heap (locs ++ L) e1.symm (by rw [← e2]; exact X'.warmed.alike) hp hb k1 k2 k3 T' rfl X'
    exact ⟨t2, st t2 a1, b1⟩
  · obtain ⟨k1, k2, k3⟩ := vx_keep h0 e1 hS hAX hf hL hF
    obtain ⟨t2, a1, b1⟩ := kx E ce q u t T'.heap (locs ++ L) e1.symm (by rw [← e2]; exact X'.warmed.alike) hp hb k1 k2 k3 (by rw [e1]; exact hce) hcv hcl T' rfl X'
    exact ⟨t2, st.trans a1, b1⟩
theorem vx_calll {S SX : Type} {post : Int64 → S → Prop} {px : SX → Prop} {B : S → State → Prop} {BX : String → SX → State → Prop} {AX : Nat → Prop} (hr : vx_Run p l e R s m args below meth c H locs cells slots mc ms (F0 m pc ls st0) rest (va_Ql post B A1 a) (vx_X px BX AX) free) (hS : va_S A0 H0 H locs) (hA : ∀ q, q < H.size → A1 q → A0 q) (hf : ∀ q, free q → A0 q) (hAX : ∀ q, q < H.size → AX q → A0 q)
    (kx : ∀ (E : String) (ce : Cell) (q9 : Addr) (u : SX) (t : State) (H1 : Heap) (locs1 : List Loc), t.heap = H1 → s.vm.Alike t.vm → px u → BX E u t → H.size ≤ H1.size → (∀ q : Nat, q < H.size → ¬ AX q → H1[q]? = H[q]?) → va_S A0 H0 H1 locs1 → H1[q9]? = some ce → ce.vm = .none → s.vm.findClass E = some ce.cls → vx_W p l e R s m args below meth c H1 locs1 (cells + mc) (slots + ms) Q (F0 m pc ls rest) q9)
    (kk : ∀ (r : Int64) (u : S) (t : State) (H1 : Heap) (locs1 : List Loc), t.heap = H1 → s.vm.Alike t.vm → post r u → B u t → H.size ≤ H1.size → (∀ q : Nat, q < H.size → ¬ A1 q → H1[q]? = H[q]?) → va_S A0 H0 H1 locs1 → W p l e R s m args below meth c H1 locs1 (cells + mc) (slots + ms) Q (F0 m (pc + 3) ls (.long r :: rest))) : W p l e R s m args below meth c H locs cells slots Q (F0 m pc ls st0) := by
  intro T hT X
  rcases hr T hT X with ⟨v, st₀, t, T', L, h0, X', hL, e1, e2, ⟨⟨r, u, hv, hp, hb⟩, hF⟩, st⟩ | ⟨q, st₀, t, T', L, E, ce, h0, X', hL, e1, e2, ⟨u, hp, hb, hF⟩, hce, hcv, hcl, st⟩
  · cases hv
    obtain ⟨k1, k2, k3⟩ := vx_keep h0 e1 hS hA hf hL hF
    obtain ⟨t2, a1, b1⟩ := kk r u t T'.heap (locs ++ L) e1.symm (by rw [← e2]; exact X'.warmed.alike) hp hb k1 k2 k3 T' rfl X'
    exact ⟨t2, st t2 a1, b1⟩
  · obtain ⟨k1, k2, k3⟩ := vx_keep h0 e1 hS hAX hf hL hF
    obtain ⟨t2, a1, b1⟩ := kx E ce q u t T'.heap (locs ++ L) e1.symm (by rw [← e2]; exact X'.warmed.alike) hp hb k1 k2 k3 (by rw [e1]; exact hce) hcv hcl T' rfl X'
    exact ⟨t2, st.trans a1, b1⟩
theorem vx_callf {S SX : Type} {post : UInt32 → S → Prop} {px : SX → Prop} {B : S → State → Prop} {BX : String → SX → State → Prop} {AX : Nat → Prop} (hr : vx_Run p l e R s m args below meth c H locs cells slots mc ms (F0 m pc ls st0) rest (va_Qf post B A1 a) (vx_X px BX AX) free) (hS : va_S A0 H0 H locs) (hA : ∀ q, q < H.size → A1 q → A0 q) (hf : ∀ q, free q → A0 q) (hAX : ∀ q, q < H.size → AX q → A0 q)
    (kx : ∀ (E : String) (ce : Cell) (q9 : Addr) (u : SX) (t : State) (H1 : Heap) (locs1 : List Loc), t.heap = H1 → s.vm.Alike t.vm → px u → BX E u t → H.size ≤ H1.size → (∀ q : Nat, q < H.size → ¬ AX q → H1[q]? = H[q]?) → va_S A0 H0 H1 locs1 → H1[q9]? = some ce → ce.vm = .none → s.vm.findClass E = some ce.cls → vx_W p l e R s m args below meth c H1 locs1 (cells + mc) (slots + ms) Q (F0 m pc ls rest) q9)
    (kk : ∀ (r : UInt32) (u : S) (t : State) (H1 : Heap) (locs1 : List Loc), t.heap = H1 → s.vm.Alike t.vm → post r u → B u t → H.size ≤ H1.size → (∀ q : Nat, q < H.size → ¬ A1 q → H1[q]? = H[q]?) → va_S A0 H0 H1 locs1 → W p l e R s m args below meth c H1 locs1 (cells + mc) (slots + ms) Q (F0 m (pc + 3) ls (.float r :: rest))) : W p l e R s m args below meth c H locs cells slots Q (F0 m pc ls st0) := by
  intro T hT X
  rcases hr T hT X with ⟨v, st₀, t, T', L, h0, X', hL, e1, e2, ⟨⟨r, u, hv, hp, hb⟩, hF⟩, st⟩ | ⟨q, st₀, t, T', L, E, ce, h0, X', hL, e1, e2, ⟨u, hp, hb, hF⟩, hce, hcv, hcl, st⟩
  · cases hv
    obtain ⟨k1, k2, k3⟩ := vx_keep h0 e1 hS hA hf hL hF
    obtain ⟨t2, a1, b1⟩ := kk r u t T'.heap (locs ++ L) e1.symm (by rw [← e2]; exact X'.warmed.alike) hp hb k1 k2 k3 T' rfl X'
    exact ⟨t2, st t2 a1, b1⟩
  · obtain ⟨k1, k2, k3⟩ := vx_keep h0 e1 hS hAX hf hL hF
    obtain ⟨t2, a1, b1⟩ := kx E ce q u t T'.heap (locs ++ L) e1.symm (by rw [← e2]; exact X'.warmed.alike) hp hb k1 k2 k3 (by rw [e1]; exact hce) hcv hcl T' rfl X'
    exact ⟨t2, st.trans a1, b1⟩
theorem vx_calld {S SX : Type} {post : UInt64 → S → Prop} {px : SX → Prop} {B : S → State → Prop} {BX : String → SX → State → Prop} {AX : Nat → Prop} (hr : vx_Run p l e R s m args below meth c H locs cells slots mc ms (F0 m pc ls st0) rest (va_Qd post B A1 a) (vx_X px BX AX) free) (hS : va_S A0 H0 H locs) (hA : ∀ q, q < H.size → A1 q → A0 q) (hf : ∀ q, free q → A0 q) (hAX : ∀ q, q < H.size → AX q → A0 q)
    (kx : ∀ (E : String) (ce : Cell) (q9 : Addr) (u : SX) (t : State) (H1 : Heap) (locs1 : List Loc), t.heap = H1 → s.vm.Alike t.vm → px u → BX E u t → H.size ≤ H1.size → (∀ q : Nat, q < H.size → ¬ AX q → H1[q]? = H[q]?) → va_S A0 H0 H1 locs1 → H1[q9]? = some ce → ce.vm = .none → s.vm.findClass E = some ce.cls → vx_W p l e R s m args below meth c H1 locs1 (cells + mc) (slots + ms) Q (F0 m pc ls rest) q9)
    (kk : ∀ (r : UInt64) (u : S) (t : State) (H1 : Heap) (locs1 : List Loc), t.heap = H1 → s.vm.Alike t.vm → post r u → B u t → H.size ≤ H1.size → (∀ q : Nat, q < H.size → ¬ A1 q → H1[q]? = H[q]?) → va_S A0 H0 H1 locs1 → W p l e R s m args below meth c H1 locs1 (cells + mc) (slots + ms) Q (F0 m (pc + 3) ls (.double r :: rest))) : W p l e R s m args below meth c H locs cells slots Q (F0 m pc ls st0) := by
  intro T hT X
  rcases hr T hT X with ⟨v, st₀, t, T', L, h0, X', hL, e1, e2, ⟨⟨r, u, hv, hp, hb⟩, hF⟩, st⟩ | ⟨q, st₀, t, T', L, E, ce, h0, X', hL, e1, e2, ⟨u, hp, hb, hF⟩, hce, hcv, hcl, st⟩
  · cases hv
    obtain ⟨k1, k2, k3⟩ := vx_keep h0 e1 hS hA hf hL hF
    obtain ⟨t2, a1, b1⟩ := kk r u t T'.heap (locs ++ L) e1.symm (by rw [← e2]; exact X'.warmed.alike) hp hb k1 k2 k3 T' rfl X'
    exact ⟨t2, st t2 a1, b1⟩
  · obtain ⟨k1, k2, k3⟩ := vx_keep h0 e1 hS hAX hf hL hF
    obtain ⟨t2, a1, b1⟩ := kx E ce q u t T'.heap (locs ++ L) e1.symm (by rw [← e2]; exact X'.warmed.alike) hp hb k1 k2 k3 (by rw [e1]; exact hce) hcv hcl T' rfl X'
    exact ⟨t2, st.trans a1, b1⟩
theorem vx_callv {S SX : Type} {post : S → Prop} {px : SX → Prop} {B : S → State → Prop} {BX : String → SX → State → Prop} {AX : Nat → Prop} (hr : vx_Run p l e R s m args below meth c H locs cells slots mc ms (F0 m pc ls st0) rest (va_Qv post B A1 a) (vx_X px BX AX) free) (hS : va_S A0 H0 H locs) (hA : ∀ q, q < H.size → A1 q → A0 q) (hf : ∀ q, free q → A0 q) (hAX : ∀ q, q < H.size → AX q → A0 q)
    (kx : ∀ (E : String) (ce : Cell) (q9 : Addr) (u : SX) (t : State) (H1 : Heap) (locs1 : List Loc), t.heap = H1 → s.vm.Alike t.vm → px u → BX E u t → H.size ≤ H1.size → (∀ q : Nat, q < H.size → ¬ AX q → H1[q]? = H[q]?) → va_S A0 H0 H1 locs1 → H1[q9]? = some ce → ce.vm = .none → s.vm.findClass E = some ce.cls → vx_W p l e R s m args below meth c H1 locs1 (cells + mc) (slots + ms) Q (F0 m pc ls rest) q9)
    (kk : ∀ (u : S) (t : State) (H1 : Heap) (locs1 : List Loc), t.heap = H1 → s.vm.Alike t.vm → post u → B u t → H.size ≤ H1.size → (∀ q : Nat, q < H.size → ¬ A1 q → H1[q]? = H[q]?) → va_S A0 H0 H1 locs1 → W p l e R s m args below meth c H1 locs1 (cells + mc) (slots + ms) Q (F0 m (pc + 3) ls (rest))) : W p l e R s m args below meth c H locs cells slots Q (F0 m pc ls st0) := by
  intro T hT X
  rcases hr T hT X with ⟨v, st₀, t, T', L, h0, X', hL, e1, e2, ⟨⟨u, hv, hp, hb⟩, hF⟩, st⟩ | ⟨q, st₀, t, T', L, E, ce, h0, X', hL, e1, e2, ⟨u, hp, hb, hF⟩, hce, hcv, hcl, st⟩
  · cases hv
    obtain ⟨k1, k2, k3⟩ := vx_keep h0 e1 hS hA hf hL hF
    obtain ⟨t2, a1, b1⟩ := kk u t T'.heap (locs ++ L) e1.symm (by rw [← e2]; exact X'.warmed.alike) hp hb k1 k2 k3 T' rfl X'
    exact ⟨t2, st t2 a1, b1⟩
  · obtain ⟨k1, k2, k3⟩ := vx_keep h0 e1 hS hAX hf hL hF
    obtain ⟨t2, a1, b1⟩ := kx E ce q u t T'.heap (locs ++ L) e1.symm (by rw [← e2]; exact X'.warmed.alike) hp hb k1 k2 k3 (by rw [e1]; exact hce) hcv hcl T' rfl X'
    exact ⟨t2, st.trans a1, b1⟩
/-- caught by the row x of this method's table; the rows ahead don't take it -/
theorem vx_catch {own name : String} {E : String} {ce : Cell} {q : Addr} (hown : s.vm.findClass own = some m.cls) (pre : List ExceptionTableEntry) (x : ExceptionTableEntry) (suf : List ExceptionTableEntry) (hsplit : c.exceptionTable.toList = pre ++ x :: suf)
    (hpass : ∀ z ∈ pre, covers z pc = false ∨ (z.catchType ≠ 0 ∧ ∃ nm : String, (Cond.classLink own z.catchType nm).before args s = true ∧ va_Nc E nm s)) (hx : covers x pc = true) (h0 : x.catchType ≠ 0)
    (hlink : (Cond.classLink own x.catchType name).before args s = true) (hcast : (Cond.castable E name).before args s = true) (hcell : H[q]? = some ce) (hv : ce.vm = .none) (hcl : s.vm.findClass E = some ce.cls)
    (kk : W p l e R s m args below meth c H locs cells slots Q (F0 m x.handlerPc ls [.ref q])) : vx_W p l e R s m args below meth c H locs cells slots Q (F0 m pc ls rest) q := by
  intro T hT X
  have hpl : e.platform.magicAccessors = ({} : Platform).magicAccessors := by rw [X.admits.platform]
  obtain ⟨c3, c4, hc3, hc4, hasg⟩ := Cond.castable_spec hcast
  cases Option.some.inj (hc3.symm.trans hcl)
  obtain ⟨c5, hc5, hcl5⟩ := Cond.classLink_spec hown hlink e.platform hpl
  cases Option.some.inj (hc4.symm.trans hc5)
  obtain ⟨vm', X', st⟩ := X.thenCaughtThrough q (g := F0 m pc ls rest) rfl (Steps.refl _) (by rw [hT]; exact hcell) (by rw [hv]; rfl) (by obtain ⟨k9, h9, -⟩ := Vm.findClass_spec hcl; exact ⟨k9, h9⟩) pre x suf hsplit
    (fun z hz => by
      rcases hpass z hz with h | ⟨hz0, nm, hl1, hn1⟩
      · exact Or.inl h
      · obtain ⟨c6, hc6, hcl6⟩ := Cond.classLink_spec hown hl1 e.platform hpl
        obtain ⟨a8, b8, h1, h2, h3⟩ := hn1
        cases Option.some.inj (h1.symm.trans hcl)
        cases Option.some.inj (h2.symm.trans hc6)
        exact Or.inr ⟨hz0, _, hcl6, h3⟩) hx (Or.inr ⟨h0, c4, hcl5, hasg⟩)
  obtain ⟨t, a1, b1⟩ := kk (T.setVm vm') hT X'
  exact ⟨t, st.trans a1, b1⟩
end Rows
section Ends
variable {p : Program} {l : Launch} {e : Env} {R : Room} {s : State} {m : MethodId} {args : Array Value} {below : List Frame} {meth : Method} {c : Code} {H : Heap} {locs : List Loc} {cells slots : Nat} {Q : State → Prop}
variable {mc ms : Nat} {free : Addr → Prop} {A0 A1 : Nat → Prop} {H0 : Heap} {a : Array Value} {ls : Array Slot} {st0 rest : List Value}
variable {Qc : Array Value → State → Outcome → State → Prop} {XC : String → State → State → Prop}
/-- what a body that may throw owes at its end -/
def vx_MQ (below : List Frame) (Qc : Array Value → State → Outcome → State → Prop) (XC : String → State → State → Prop) (a : Array Value) (s : State) (mc ms : Nat) (free : Addr → Prop) : State → Prop := fun t =>
  ∃ o, t.status = .running ∧ Ended t below o ∧ vx_Q Qc XC mc ms free a s o t
theorem vx_ret {g : JFrame} {mc ms : Nat} (k : W p l e R s m args below meth c H locs cells slots (MQ below Qc args s mc ms free) g) : W p l e R s m args below meth c H locs cells slots (vx_MQ below Qc XC args s mc ms free) g := by
  intro T hT X
  obtain ⟨t, a1, o, b1, b2, b3, b4⟩ := k T hT X
  exact ⟨t, a1, o, b1, b2, Or.inl ⟨b3, b4⟩⟩
/-- not caught here: it goes on to the caller -/
theorem vx_widen {g : JFrame} {q : Addr} {k n : Nat} (h1 : cells ≤ k) (h2 : slots ≤ n) (kk : vx_W p l e R s m args below meth c H locs k n Q g q) : vx_W p l e R s m args below meth c H locs cells slots Q g q := fun T hT X => kk T hT (stand_widen X h1 h2)
theorem vx_out {pc : Nat} {E : String} {ce : Cell} {q : Addr} {mc ms : Nat} (hout : ∀ x ∈ c.exceptionTable.toList, covers x pc = false) (hlocks : meth.locks = false) (hcell : H[q]? = some ce) (hv : ce.vm = .none) (hcl : s.vm.findClass E = some ce.cls)
    (hx : ∀ t : State, t.heap = H → s.vm.Alike t.vm → XC E s t) (hf : ∀ z ∈ locs, free z.base) (hc : cells ≤ mc) (hs : slots ≤ ms) :
    vx_W p l e R s m args below meth c H locs cells slots (vx_MQ below Qc XC args s mc ms free) (F0 m pc ls rest) q := by
  intro T hT X
  obtain ⟨st1, hrun, hend, hW, hsm⟩ := X.leaveThrown q (g := F0 m pc ls rest) rfl rfl rfl hout hlocks
  have hcell9 : (T.setFrames (.throwing q :: below)).heap[q]? = some ce := by
    show T.heap[q]? = some ce
    rw [hT]; exact hcell
  exact ⟨_, st1, .threw q, hrun, hend, Or.inr ⟨q, rfl, E, ce, locs, hx _ hT hW.alike, hcell9, hv, hcl, hW, hsm.mono hc hs, hf⟩⟩
theorem vx_frame {U : State} {k n : Nat} (h : s.sameButNew ({ U with vm := s.vm } : State) locs k n) : s.heap.size ≤ U.heap.size ∧ ∀ q : Nat, q < s.heap.size → (∀ z ∈ locs, z.base ≠ q) → U.heap[q]? = s.heap[q]? := by
  obtain ⟨-, h2, -, -, -, h6⟩ := h
  refine ⟨h2, fun q hq hz => ?_⟩
  obtain ⟨c9, e1, e2, e3, e4⟩ := h6 q _ (Array.getElem?_eq_getElem hq)
  have hs : c9.slots = (s.heap[q]).slots := Array.ext_getElem? fun i => e4 i fun hm => hz _ hm rfl
  have h9 : c9 = s.heap[q] := by
    rw [hs] at e2
    exact e2
  have e5 : U.heap[q]? = some c9 := e1
  rw [e5, h9, Array.getElem?_eq_getElem hq]
/-- the words of a throw but the four that speak of the heap -/
def vx_no (w : Cond) : Bool := decide (w ≠ .isRef (.static Bundle.tN "UNASSIGNED_STACK" Bundle.steD)) && decide (w ≠ .isRef (.static Bundle.tN "SUPPRESSED_SENTINEL" Bundle.listD)) && decide (w ≠ .laysStatic Bundle.tN "UNASSIGNED_STACK" Bundle.steD) && decide (w ≠ .laysStatic Bundle.tN "SUPPRESSED_SENTINEL" Bundle.listD)
def vx_at0 (own : String) (ic : Nat) (X : String) (names : List String) : List Cond := (Bundle.ownAtoms0 own ic X names).filter vx_no
def vx_atS (own : String) (ic : Nat) (X : String) (names : List String) : List Cond := (Bundle.ownAtoms own ic X names).filter vx_no
/-- a word that the tables alone decide, or a good one -/
def vx_ot (w : Cond) : Bool := w.onTables || goodWord w
theorem vx_ot_at {args a' : Array Value} {s U : State} {w : Cond} (hW : s.WarmedH U.vm) (hvm : s.vm = U.vm) (hg : vx_ot w = true) (h : w.before args s = true) : w.before a' U = true := by
  simp only [vx_ot, Bool.or_eq_true] at hg
  rcases hg with hg | hg
  · exact va_tabs hg hvm h
  · exact word_at hW (good_of_word hg) h
/-- a list's words: the good ones out of the method's own list, the others by premises of their own -/
theorem vx_hat {args : Array Value} {s : State} {L B : List Cond} (h1 : ∀ w ∈ L.filter goodWord, w.before args s = true) (h2 : ∀ w ∈ L.filter (fun w => !goodWord w), w ∈ B) (h3 : ∀ w ∈ B, w.before args s = true) : ∀ w ∈ L, w.before args s = true := by
  intro w hw
  by_cases g : goodWord w = true
  · exact h1 w (List.mem_filter.mpr ⟨hw, g⟩)
  · refine h3 w (h2 w (List.mem_filter.mpr ⟨hw, ?_⟩))
    show (!goodWord w) = true
    cases hgw : goodWord w
    · rfl
    · exact absurd hgw g
theorem vx_c {args : Array Value} {s : State} {w : Cond} {B : List Cond} (h : w.before args s = true) (t : ∀ w ∈ B, w.before args s = true) : ∀ w' ∈ w :: B, w'.before args s = true := fun w' h' => (List.mem_cons.mp h').elim (fun e => by rw [e]; exact h) (t w')
theorem vx_n {args : Array Value} {s : State} : ∀ w ∈ ([] : List Cond), w.before args s = true := fun _ h => nomatch h
theorem vx_own {args : Array Value} {s : State} {L : List Cond} (h1 : ∀ w ∈ L.filter vx_no, w.before args s = true)
    (hU : (Cond.isRef (.static Bundle.tN "UNASSIGNED_STACK" Bundle.steD)).before args s = true) (hN : (Cond.isRef (.static Bundle.tN "SUPPRESSED_SENTINEL" Bundle.listD)).before args s = true)
    (lU : (Cond.laysStatic Bundle.tN "UNASSIGNED_STACK" Bundle.steD).before args s = true) (lN : (Cond.laysStatic Bundle.tN "SUPPRESSED_SENTINEL" Bundle.listD).before args s = true) : ∀ w ∈ L, w.before args s = true := by
  intro w hw
  by_cases e1 : w = .isRef (.static Bundle.tN "UNASSIGNED_STACK" Bundle.steD)
  · rw [e1]; exact hU
  · by_cases e2 : w = .isRef (.static Bundle.tN "SUPPRESSED_SENTINEL" Bundle.listD)
    · rw [e2]; exact hN
    · by_cases e3 : w = .laysStatic Bundle.tN "UNASSIGNED_STACK" Bundle.steD
      · rw [e3]; exact lU
      · by_cases e4 : w = .laysStatic Bundle.tN "SUPPRESSED_SENTINEL" Bundle.listD
        · rw [e4]; exact lN
        · exact h1 w (List.mem_filter.mpr ⟨hw, by unfold vx_no; rw [decide_eq_true e1, decide_eq_true e2, decide_eq_true e3, decide_eq_true e4]; rfl⟩)
/-- where a static field lies, its class's statics cell in H -/
def vx_L (C n d : String) (A : Nat → Prop) (U : State) (H : Heap) : Prop := ∃ (c : ClassId) (k : Class) (i : Nat) (f : Field) (a : Nat) (cell : Cell), U.vm.findClass C = some c ∧ U.fieldFound? C n d = some (c, k, i, f) ∧ f.isStatic = true ∧ k.statics = some a ∧ H[a]? = some cell ∧ cell.vm.isStatics = true ∧ cell.cls = c ∧ f.slot < cell.slots.size ∧ k.staticTypes[f.slot]? = some f.type ∧ ¬ A a
theorem vx_L.moved {C n d : String} {A : Nat → Prop} {u U : State} {H : Heap} (hvm : u.vm.Alike U.vm) (h : vx_L C n d A u H) : vx_L C n d A U H := by
  obtain ⟨c, k, i, f, a, cell, h1, h2, h3, h4, h5, h6, h7, h8, h9, h10⟩ := h
  obtain ⟨k', hi', he⟩ := State.fieldFound?_setVm hvm h2
  exact ⟨c, k', i, f, a, cell, by rw [hvm.findClass]; exact h1, hi', h3, by rw [he]; exact h4, h5, h6, h7, h8, by rw [he]; exact h9, h10⟩
theorem vx_L.kept {C n d : String} {A : Nat → Prop} {U : State} {H H1 : Heap} (h : vx_L C n d A U H) (hq : ∀ a : Nat, a < H.size → ¬ A a → H1[a]? = H[a]?) : vx_L C n d A U H1 := by
  obtain ⟨c, k, i, f, a, cell, h1, h2, h3, h4, h5, h6, h7, h8, h9, h10⟩ := h
  exact ⟨c, k, i, f, a, cell, h1, h2, h3, h4, by rw [hq a (Array.getElem?_eq_some_iff.mp h5).1 h10]; exact h5, h6, h7, h8, h9, h10⟩
theorem vx_L.narrow {C n d : String} {A B : Nat → Prop} {U : State} {H : Heap} (h : vx_L C n d A U H) (hAB : ∀ q, B q → A q) : vx_L C n d B U H := by
  obtain ⟨c, k, i, f, a, cell, h1, h2, h3, h4, h5, h6, h7, h8, h9, h10⟩ := h
  exact ⟨c, k, i, f, a, cell, h1, h2, h3, h4, h5, h6, h7, h8, h9, fun z => h10 (hAB _ z)⟩
theorem vx_L.word {C n d : String} {A : Nat → Prop} {s : State} {args : Array Value} (h : vx_L C n d A s s.heap) : (Cond.laysStatic C n d).before args s = true := by
  obtain ⟨c, k, i, f, a, cell, h1, h2, h3, h4, h5, h6, h7, h8, h9, -⟩ := h
  show (Cond.laysStatic C n d).holds args s none s [] = true
  exact Cond.laysStatic_of h1 h2 h3 h4 h5 h6 h7 h8 h9
/-- .. and what it holds: null or some reference -/
def vx_Zq (C n d : String) (A : Nat → Prop) (U : State) (H : Heap) : Prop := va_Zq C n d A U H ∧ vx_L C n d A U H
theorem vx_Zq.moved {C n d : String} {A : Nat → Prop} {u U : State} {H : Heap} (hvm : u.vm.Alike U.vm) (h : vx_Zq C n d A u H) : vx_Zq C n d A U H := ⟨va_Zq.moved hvm h.1, vx_L.moved hvm h.2⟩
theorem vx_Zq.kept {C n d : String} {A : Nat → Prop} {U : State} {H H1 : Heap} (h : vx_Zq C n d A U H) (hq : ∀ a : Nat, a < H.size → ¬ A a → H1[a]? = H[a]?) : vx_Zq C n d A U H1 := ⟨va_Zq.kept h.1 hq, vx_L.kept h.2 hq⟩
theorem vx_Zq.narrow {C n d : String} {A B : Nat → Prop} {U : State} {H : Heap} (h : vx_Zq C n d A U H) (hAB : ∀ q, B q → A q) : vx_Zq C n d B U H := ⟨va_Zq.narrow h.1 hAB, vx_L.narrow h.2 hAB⟩
theorem vx_Zqof {args : Array Value} {s : State} {C n d : String} {A : Nat → Prop} (hl : (Cond.laysStatic C n d).before args s = true) (hini : (Cond.initialized C).before args s = true) (h : (Cond.isRef (.static C n d)).before args s = true) (hA : ∀ a : Nat, a < s.heap.size → ¬ A a) : vx_Zq C n d A s s.heap := by
  refine ⟨va_Zqof hl hini h hA, ?_⟩
  obtain ⟨c, k, i, f, a, cell, h1, h2, h3, h4, h5, h6, h7, h8, h9⟩ := Cond.laysStatic_spec hl
  exact ⟨c, k, i, f, a, cell, h1, h2, h3, h4, h5, h6, h7, h8, h9, hA a (Array.getElem?_eq_some_iff.mp h5).1⟩
theorem vx_isRef {C n d : String} {v : Value} {A : Nat → Prop} {s : State} {args : Array Value} (h : va_Z C n d v A s s.heap) (hv : v.isRef = true) : (Cond.isRef (.static C n d)).before args s = true := by
  obtain ⟨cf, kf, fi, f, a, cell, h1, h2, h3, h4, h5, h6, h7, -⟩ := h
  have he : (Term.static C n d).eval args s none [] s = some v := by
    simp [Term.eval, State.fieldNamed?, h1, h2, h4, h5, h6, h7]
  simp only [Cond.before, Cond.holds, Cond.value, he]
  cases v <;> simp_all [Value.isRef]
theorem vx_isRefq {C n d : String} {A : Nat → Prop} {s : State} {args : Array Value} (h : va_Zq C n d A s s.heap) : (Cond.isRef (.static C n d)).before args s = true := by
  rcases h with h | ⟨t, h⟩
  · exact vx_isRef h rfl
  · exact vx_isRef h rfl
/-- the same frame, seen from here: as if the method were called anew in this heap -/
theorem vx_rebase {T : State} (X : Stand p l e R s m args below meth c T locs cells slots) {R' : Room} (hf : R'.frames ≤ R.frames) (hl : R'.locals ≤ R.locals) (hc : cells + R'.cells ≤ R.cells) (hs : slots + R'.slots ≤ R.slots) :
    Stand p l e R' ((T.setVm s.vm).setFrames (.invoking m args :: below)) m args below meth c T [] 0 0 := by
  have htop : (T.setVm s.vm).topJava?.isSome := X.here.top
  have hF : ((T.setVm s.vm).setFrames (.invoking m args :: below)).frames = .invoking m args :: below := State.frames_setFrames _ (State.cur_lt_of_top htop)
  obtain ⟨g₀, hg0⟩ := Option.isSome_iff_exists.mp htop
  obtain ⟨r, hr⟩ := State.topJava?_eq_some.mp hg0
  have hl9 : e.platform.stackLimits (T.setVm s.vm).me = e.platform.stackLimits s.me := X.limits
  have hb9 : (T.setVm s.vm).me.stackBytes = s.me.stackBytes := X.bytes
  refine ⟨X.admits, X.cas, X.clock, hF, ?_, X.hears, X.method, X.code, X.here, X.tail, X.warmed, ?_, ?_, ?_⟩
  · have h := X.room
    have hU : ((T.setVm s.vm).setFrames (.invoking m args :: below)).localsInUse = s.localsInUse := by
      rw [State.localsInUse_invoking hF (meth := meth) (c := c) X.method X.code, State.localsInUse_invoking X.frames X.method X.code]
    simp only [State.hasRoom, Bool.and_eq_true, decide_eq_true_eq] at h ⊢
    obtain ⟨⟨⟨⟨h1, h2, h3, h4, h5, h6⟩, h7⟩, h8⟩, h9⟩ := h
    rw [X.frames, List.length_cons] at h2 h3
    have q1 := X.heapSize
    have q2 := X.used
    simp only [hF, hU, List.length_cons, State.stackLimits_setFrames, State.stackBytes_setFrames, hl9, hb9]
    refine ⟨⟨⟨⟨by omega, by omega, by omega, by omega, by omega, h6⟩, ?_⟩, ?_⟩, X.book⟩
    · show T.heap.size + R'.cells ≤ e.platform.maxCells
      omega
    · show T.slotsUsed + R'.slots ≤ e.platform.maxSlots
      omega
  · rw [State.stackLimits_setFrames]; rfl
  · rw [State.stackBytes_setFrames]; rfl
  · refine ⟨?_, Nat.le_refl _, Nat.le_refl _, ?_, ?_, fun a c9 h9 => ⟨c9, h9, rfl, rfl, fun _ _ => rfl⟩⟩
    · obtain ⟨t, ht, -⟩ := State.frames_cons hr
      show T.setVm s.vm = { ((T.setVm s.vm).setFrames (.invoking m args :: below)).setFrames (T.setVm s.vm).frames with heap := T.heap, slotsUsed := T.slotsUsed }
      rw [State.setFrames_setFrames, State.setFrames_self ht]
      rfl
    · show T.slotsUsed = T.slotsUsed + ((T.heap.toList.drop T.heap.size).map (·.slots.size)).sum
      rw [List.drop_eq_nil_of_le (Nat.le_of_eq Array.length_toList)]
      rfl
    · show ((T.heap.toList.drop T.heap.size).map (·.slots.size)).sum ≤ 0
      rw [List.drop_eq_nil_of_le (Nat.le_of_eq Array.length_toList)]
      exact Nat.le_refl _
/-- 'throw new E()': new; dup; invokespecial; athrow -/
theorem vx_throw0 {cc : ByteArray} {pc : Nat} (hexec : p.tables.exec = Jvm.exec) (hb : c.code = cc) (hl : l.stackTraces = false) {own cls : String} {names : List String} {ik ic mc ms : Nat} {A : Nat → Prop}
    (hown : s.vm.findClass own = some m.cls) (hcls : Bundle.fit cls = true) (hnames : ∀ n ∈ names, Bundle.fit n = true)
    (hk : (Cond.classLink own ik cls).before args s = true) (hini : (Cond.initialized cls).before args s = true) (hat : ∀ w ∈ vx_at0 own ic cls names, w.before args s = true)
    (hgood : ∀ w ∈ Cond.classLink own ik cls :: Cond.initialized cls :: vx_at0 own ic cls names, vx_ot w = true)
    (hU : vx_Zq Bundle.tN "UNASSIGNED_STACK" Bundle.steD A s s.heap) (hN : vx_Zq Bundle.tN "SUPPRESSED_SENTINEL" Bundle.listD A s s.heap) (hS : va_S A s.heap H locs) (hsize : ls.size = c.maxLocals)
    (d0 : decode cc pc = .ok (.new ik, 3)) (d3 : decode cc (pc + 3) = .ok (.dup, 1)) (d4 : decode cc (pc + 4) = .ok (.invokespecial ic, 3)) (d7 : decode cc (pc + 7) = .ok (.athrow, 1))
    (hout : ∀ x ∈ c.exceptionTable.toList, covers x (pc + 7) = false)
    (hRframes : names.length + 3 < R.frames) (hRlocals : (rest.map fun v => v.category).sum + (13 * (names.length + 1) + 42) ≤ R.locals) (hRcells : cells + 1 ≤ R.cells) (hRslots : slots + 6 ≤ R.slots) (hlocks : meth.locks = false)
    (hx : ∀ t : State, s.vm.Alike t.vm → H.size ≤ t.heap.size → (∀ q : Nat, q < H.size → t.heap[q]? = H[q]?) → XC cls s t)
    (hf : ∀ z ∈ locs, free z.base) (hc : cells + 1 ≤ mc) (hs : slots + 6 ≤ ms) :
    W p l e R s m args below meth c H locs cells slots (vx_MQ below Qc XC args s mc ms free) (F0 m pc ls rest) := by
  intro T hT X
  have htr : e.platform.stackTraces = false := (show e.platform.stackTraces = l.stackTraces by rw [X.admits.platform]).trans hl
  have Y := vx_rebase X (R' := { frames := R.frames, locals := R.locals, cells := 1, slots := 6 }) (Nat.le_refl _) (Nat.le_refl _) hRcells hRslots
  obtain ⟨s', hA⟩ : ∃ z, z = (T.setVm s.vm).setFrames (.invoking m args :: below) := ⟨_, rfl⟩
  rw [← hA] at Y
  have hvm : s'.vm = s.vm := by rw [hA]; rfl
  have hhp : s'.heap = H := by rw [hA]; exact hT
  have hW0 : s.WarmedH s'.vm := by rw [hvm]; exact State.WarmedH.refl s
  have hat' : ∀ w ∈ vx_at0 own ic cls names, w.before args s' = true := fun w hw => vx_ot_at hW0 hvm.symm (hgood w (List.mem_cons_of_mem _ (List.mem_cons_of_mem _ hw))) (hat w hw)
  have hk' : (Cond.classLink own ik cls).before args s' = true := vx_ot_at hW0 hvm.symm (hgood _ List.mem_cons_self) hk
  have hini' : (Cond.initialized cls).before args s' = true := vx_ot_at hW0 hvm.symm (hgood _ (List.mem_cons_of_mem _ List.mem_cons_self)) hini
  have hU' : vx_Zq Bundle.tN "UNASSIGNED_STACK" Bundle.steD A s' s'.heap := by rw [hhp]; exact vx_Zq.moved hW0.alike (hU.kept hS.2.1)
  have hN' : vx_Zq Bundle.tN "SUPPRESSED_SENTINEL" Bundle.listD A s' s'.heap := by rw [hhp]; exact vx_Zq.moved hW0.alike (hN.kept hS.2.1)
  have h : ∀ w ∈ Bundle.ownAtoms0 own ic cls names, w.before args s' = true := vx_own hat' (vx_isRefq hU'.1) (vx_isRefq hN'.1) hU'.2.word hN'.2.word
  have hown' : s'.vm.findClass own = some m.cls := by rw [hvm]; exact hown
  have hins : (Cond.instantiable cls 6).before args s' = true := h _ (by simp [Bundle.ownAtoms0])
  obtain ⟨vm₁, cX, kX, hfX, hkX, -, -, X₁, st1⟩ := Y.newCold hexec (own := own) (C := cls) (index := ik) (n := 6) hown' hk' hins hini'
    (g := F0 m pc ls rest) rfl (by rw [hb]; exact d0) (Nat.le_refl _) (Nat.le_refl _)
  generalize hT1 : (T.setVm vm₁).pushCell { cls := cX, slots := kX.instanceTypes.map defaultValue, vm := .none } = T1 at X₁ st1
  have hcat : (Value.ref T.heap.size).category = 1 := rfl
  have hcellA : T1.heap[T.heap.size]? = some (freshCell cX kX) := by rw [← hT1]; exact State.heap_pushCell_size _ _
  have d3' : decode c.code (pc + 3) = .ok (.dup, 1) := by rw [hb]; exact d3
  obtain ⟨U, hsteps, hrun, hend, hW, hsame, ce, hce, hO⟩ := X₁.ctorThrow0 hexec htr (own := own) (cls := cls) (names := names) (ic := ic) hown' hcls hnames h (fun x hx => nomatch hx) hfX hkX hcellA (by rw [hhp, hT]; exact Nat.le_refl _)
    (g := { method := m, pc := pc + 4, locals := ls, stack := .ref T.heap.size :: .ref T.heap.size :: rest, locked := none }) rfl hsize rfl rfl (rest := rest) rfl
    (by rw [hb]; exact d4) (by rw [hb]; exact d7) hout hRframes (by simp only [List.map_cons, List.sum_cons, hcat]; omega) hlocks
  obtain ⟨f1, f2⟩ := vx_frame hsame
  rw [hhp] at f1 f2
  have hWs : s.WarmedH U.vm := State.WarmedH.trans hW0 hW
  have hcl : s.vm.findClass cls = some ce.cls := by
    have h9 := hO.cls
    rw [hvm] at h9
    exact h9
  have hall : s.sameButNew ({ U with vm := s.vm } : State) locs mc ms := by
    subst hA
    obtain ⟨e1, e2⟩ := hsame
    rw [State.setFrames_setFrames] at e1
    have h2 : (T.setVm s.vm).sameButNew ({ U with vm := s.vm } : State) [] (0 + 1) (0 + 6) := ⟨e1, e2⟩
    have h3 := X.same.trans h2
    rw [List.append_nil] at h3
    exact h3.mono hc hs
  refine ⟨U, ?_, .threw T.heap.size, hrun, hend, Or.inr ⟨T.heap.size, rfl, cls, ce, locs, hx U hWs.alike f1 (fun q hq => f2 q hq (fun z hz => nomatch hz)), hce, hO.vm, hcl, hWs, hall, hf⟩⟩
  refine st1 _ ?_
  show Steps p.tables e below (T1.setTop { method := m, pc := pc + 3, locals := ls, stack := .ref T.heap.size :: rest, locked := none }) _
  jvm_step X₁.here [X₁.here.top, hexec, d3', Value.category]
  exact hsteps
/-- 'throw new E("text")': new; dup; ldc; invokespecial; athrow -/
theorem vx_throwS {cc : ByteArray} {pc : Nat} (hexec : p.tables.exec = Jvm.exec) (hb : c.code = cc) (hl : l.stackTraces = false) {own cls text : String} {names : List String} {ik is ic mc ms sa : Nat} {A : Nat → Prop}
    (hown : s.vm.findClass own = some m.cls) (hcls : Bundle.fit cls = true) (hnames : ∀ n ∈ names, Bundle.fit n = true)
    (hk : (Cond.classLink own ik cls).before args s = true) (hini : (Cond.initialized cls).before args s = true) (hstr : vk_R own is text sa s) (hat : ∀ w ∈ vx_atS own ic cls names, w.before args s = true)
    (hgood : ∀ w ∈ Cond.classLink own ik cls :: Cond.initialized cls :: vx_atS own ic cls names, vx_ot w = true)
    (hU : vx_Zq Bundle.tN "UNASSIGNED_STACK" Bundle.steD A s s.heap) (hN : vx_Zq Bundle.tN "SUPPRESSED_SENTINEL" Bundle.listD A s s.heap) (hS : va_S A s.heap H locs) (hsize : ls.size = c.maxLocals)
    (d0 : decode cc pc = .ok (.new ik, 3)) (d3 : decode cc (pc + 3) = .ok (.dup, 1)) (d4 : decode cc (pc + 4) = .ok (.ldc is, 2)) (d6 : decode cc (pc + 6) = .ok (.invokespecial ic, 3)) (d9 : decode cc (pc + 9) = .ok (.athrow, 1))
    (hout : ∀ x ∈ c.exceptionTable.toList, covers x (pc + 9) = false)
    (hRframes : names.length + 3 < R.frames) (hRlocals : (rest.map fun v => v.category).sum + (13 * (names.length + 1) + 43) ≤ R.locals) (hRcells : cells + 1 ≤ R.cells) (hRslots : slots + 6 ≤ R.slots) (hlocks : meth.locks = false)
    (hx : ∀ t : State, s.vm.Alike t.vm → H.size ≤ t.heap.size → (∀ q : Nat, q < H.size → t.heap[q]? = H[q]?) → XC cls s t)
    (hf : ∀ z ∈ locs, free z.base) (hc : cells + 1 ≤ mc) (hs : slots + 6 ≤ ms) :
    W p l e R s m args below meth c H locs cells slots (vx_MQ below Qc XC args s mc ms free) (F0 m pc ls rest) := by
  intro T hT X
  have htr : e.platform.stackTraces = false := (show e.platform.stackTraces = l.stackTraces by rw [X.admits.platform]).trans hl
  have Y := vx_rebase X (R' := { frames := R.frames, locals := R.locals, cells := 1, slots := 6 }) (Nat.le_refl _) (Nat.le_refl _) hRcells hRslots
  obtain ⟨s', hA⟩ : ∃ z, z = (T.setVm s.vm).setFrames (.invoking m args :: below) := ⟨_, rfl⟩
  rw [← hA] at Y
  have hvm : s'.vm = s.vm := by rw [hA]; rfl
  have hhp : s'.heap = H := by rw [hA]; exact hT
  have hW0 : s.WarmedH s'.vm := by rw [hvm]; exact State.WarmedH.refl s
  have hat' : ∀ w ∈ vx_atS own ic cls names, w.before args s' = true := fun w hw => vx_ot_at hW0 hvm.symm (hgood w (List.mem_cons_of_mem _ (List.mem_cons_of_mem _ hw))) (hat w hw)
  have hk' : (Cond.classLink own ik cls).before args s' = true := vx_ot_at hW0 hvm.symm (hgood _ List.mem_cons_self) hk
  have hini' : (Cond.initialized cls).before args s' = true := vx_ot_at hW0 hvm.symm (hgood _ (List.mem_cons_of_mem _ List.mem_cons_self)) hini
  have hU' : vx_Zq Bundle.tN "UNASSIGNED_STACK" Bundle.steD A s' s'.heap := by rw [hhp]; exact vx_Zq.moved hW0.alike (hU.kept hS.2.1)
  have hN' : vx_Zq Bundle.tN "SUPPRESSED_SENTINEL" Bundle.listD A s' s'.heap := by rw [hhp]; exact vx_Zq.moved hW0.alike (hN.kept hS.2.1)
  have h : ∀ w ∈ Bundle.ownAtoms own ic cls names, w.before args s' = true := vx_own hat' (vx_isRefq hU'.1) (vx_isRefq hN'.1) hU'.2.word hN'.2.word
  have hown' : s'.vm.findClass own = some m.cls := by rw [hvm]; exact hown
  have hins : (Cond.instantiable cls 6).before args s' = true := h _ (by simp [Bundle.ownAtoms])
  obtain ⟨vm₁, cX, kX, hfX, hkX, -, -, X₁, st1⟩ := Y.newCold hexec (own := own) (C := cls) (index := ik) (n := 6) hown' hk' hins hini'
    (g := F0 m pc ls rest) rfl (by rw [hb]; exact d0) (Nat.le_refl _) (Nat.le_refl _)
  generalize hT1 : (T.setVm vm₁).pushCell { cls := cX, slots := kX.instanceTypes.map defaultValue, vm := .none } = T1 at X₁ st1
  have hcat : (Value.ref T.heap.size).category = 1 := rfl
  have hcellA : T1.heap[T.heap.size]? = some (freshCell cX kX) := by rw [← hT1]; exact State.heap_pushCell_size _ _
  have d3' : decode c.code (pc + 3) = .ok (.dup, 1) := by rw [hb]; exact d3
  have d4' : decode c.code (pc + 4) = .ok (.ldc is, 2) := by rw [hb]; exact d4
  have hstr' : vk_R own is text sa s' := vk_R.warm hW0 hstr
  obtain ⟨U, hsteps, hrun, hend, hW, hsame, ce, hce, hO⟩ := X₁.ctorThrowS hexec htr (own := own) (cls := cls) (names := names) (ic := ic) hown' hcls hnames h (fun x hx => nomatch hx) hfX hkX hcellA (by rw [hhp, hT]; exact Nat.le_refl _) (msg := .ref sa) rfl
    (g := { method := m, pc := pc + 6, locals := ls, stack := .ref sa :: .ref T.heap.size :: .ref T.heap.size :: rest, locked := none }) rfl hsize rfl rfl (rest := rest) rfl
    (by rw [hb]; exact d6) (by rw [hb]; exact d9) hout hRframes (by simp only [List.map_cons, List.sum_cons, hcat]; omega) hlocks
  obtain ⟨f1, f2⟩ := vx_frame hsame
  rw [hhp] at f1 f2
  have hWs : s.WarmedH U.vm := State.WarmedH.trans hW0 hW
  have hcl : s.vm.findClass cls = some ce.cls := by
    have h9 := hO.cls
    rw [hvm] at h9
    exact h9
  have hall : s.sameButNew ({ U with vm := s.vm } : State) locs mc ms := by
    subst hA
    obtain ⟨e1, e2⟩ := hsame
    rw [State.setFrames_setFrames] at e1
    have h2 : (T.setVm s.vm).sameButNew ({ U with vm := s.vm } : State) [] (0 + 1) (0 + 6) := ⟨e1, e2⟩
    have h3 := X.same.trans h2
    rw [List.append_nil] at h3
    exact h3.mono hc hs
  refine ⟨U, ?_, .threw T.heap.size, hrun, hend, Or.inr ⟨T.heap.size, rfl, cls, ce, locs, hx U hWs.alike f1 (fun q hq => f2 q hq (fun z hz => nomatch hz)), hce, hO.vm, hcl, hWs, hall, hf⟩⟩
  refine st1 _ ?_
  show Steps p.tables e below (T1.setTop { method := m, pc := pc + 3, locals := ls, stack := .ref T.heap.size :: rest, locked := none }) _
  jvm_step X₁.here [X₁.here.top, hexec, d3', Value.category]
  exact X₁.ldcString hexec (own := own) (text := text) (index := is) (a := sa) hown' hstr'.1 hstr'.2
    (g := { method := m, pc := pc + 4, locals := ls, stack := .ref T.heap.size :: .ref T.heap.size :: rest, locked := none }) rfl d4' _ hsteps
/-- 'throw new E("text")', the text by a wide index -/
theorem vx_throwSW {cc : ByteArray} {pc : Nat} (hexec : p.tables.exec = Jvm.exec) (hb : c.code = cc) (hl : l.stackTraces = false) {own cls text : String} {names : List String} {ik is ic mc ms sa : Nat} {A : Nat → Prop}
    (hown : s.vm.findClass own = some m.cls) (hcls : Bundle.fit cls = true) (hnames : ∀ n ∈ names, Bundle.fit n = true)
    (hk : (Cond.classLink own ik cls).before args s = true) (hini : (Cond.initialized cls).before args s = true) (hstr : vk_R own is text sa s) (hat : ∀ w ∈ vx_atS own ic cls names, w.before args s = true)
    (hgood : ∀ w ∈ Cond.classLink own ik cls :: Cond.initialized cls :: vx_atS own ic cls names, vx_ot w = true)
    (hU : vx_Zq Bundle.tN "UNASSIGNED_STACK" Bundle.steD A s s.heap) (hN : vx_Zq Bundle.tN "SUPPRESSED_SENTINEL" Bundle.listD A s s.heap) (hS : va_S A s.heap H locs) (hsize : ls.size = c.maxLocals)
    (d0 : decode cc pc = .ok (.new ik, 3)) (d3 : decode cc (pc + 3) = .ok (.dup, 1)) (d4 : decode cc (pc + 4) = .ok (.ldc_w is, 3)) (d7 : decode cc (pc + 7) = .ok (.invokespecial ic, 3)) (d10 : decode cc (pc + 10) = .ok (.athrow, 1))
    (hout : ∀ x ∈ c.exceptionTable.toList, covers x (pc + 10) = false)
    (hRframes : names.length + 3 < R.frames) (hRlocals : (rest.map fun v => v.category).sum + (13 * (names.length + 1) + 43) ≤ R.locals) (hRcells : cells + 1 ≤ R.cells) (hRslots : slots + 6 ≤ R.slots) (hlocks : meth.locks = false)
    (hx : ∀ t : State, s.vm.Alike t.vm → H.size ≤ t.heap.size → (∀ q : Nat, q < H.size → t.heap[q]? = H[q]?) → XC cls s t)
    (hf : ∀ z ∈ locs, free z.base) (hc : cells + 1 ≤ mc) (hs : slots + 6 ≤ ms) :
    W p l e R s m args below meth c H locs cells slots (vx_MQ below Qc XC args s mc ms free) (F0 m pc ls rest) := by
  intro T hT X
  have htr : e.platform.stackTraces = false := (show e.platform.stackTraces = l.stackTraces by rw [X.admits.platform]).trans hl
  have Y := vx_rebase X (R' := { frames := R.frames, locals := R.locals, cells := 1, slots := 6 }) (Nat.le_refl _) (Nat.le_refl _) hRcells hRslots
  obtain ⟨s', hA⟩ : ∃ z, z = (T.setVm s.vm).setFrames (.invoking m args :: below) := ⟨_, rfl⟩
  rw [← hA] at Y
  have hvm : s'.vm = s.vm := by rw [hA]; rfl
  have hhp : s'.heap = H := by rw [hA]; exact hT
  have hW0 : s.WarmedH s'.vm := by rw [hvm]; exact State.WarmedH.refl s
  have hat' : ∀ w ∈ vx_atS own ic cls names, w.before args s' = true := fun w hw => vx_ot_at hW0 hvm.symm (hgood w (List.mem_cons_of_mem _ (List.mem_cons_of_mem _ hw))) (hat w hw)
  have hk' : (Cond.classLink own ik cls).before args s' = true := vx_ot_at hW0 hvm.symm (hgood _ List.mem_cons_self) hk
  have hini' : (Cond.initialized cls).before args s' = true := vx_ot_at hW0 hvm.symm (hgood _ (List.mem_cons_of_mem _ List.mem_cons_self)) hini
  have hU' : vx_Zq Bundle.tN "UNASSIGNED_STACK" Bundle.steD A s' s'.heap := by rw [hhp]; exact vx_Zq.moved hW0.alike (hU.kept hS.2.1)
  have hN' : vx_Zq Bundle.tN "SUPPRESSED_SENTINEL" Bundle.listD A s' s'.heap := by rw [hhp]; exact vx_Zq.moved hW0.alike (hN.kept hS.2.1)
  have h : ∀ w ∈ Bundle.ownAtoms own ic cls names, w.before args s' = true := vx_own hat' (vx_isRefq hU'.1) (vx_isRefq hN'.1) hU'.2.word hN'.2.word
  have hown' : s'.vm.findClass own = some m.cls := by rw [hvm]; exact hown
  have hins : (Cond.instantiable cls 6).before args s' = true := h _ (by simp [Bundle.ownAtoms])
  obtain ⟨vm₁, cX, kX, hfX, hkX, -, -, X₁, st1⟩ := Y.newCold hexec (own := own) (C := cls) (index := ik) (n := 6) hown' hk' hins hini'
    (g := F0 m pc ls rest) rfl (by rw [hb]; exact d0) (Nat.le_refl _) (Nat.le_refl _)
  generalize hT1 : (T.setVm vm₁).pushCell { cls := cX, slots := kX.instanceTypes.map defaultValue, vm := .none } = T1 at X₁ st1
  have hcat : (Value.ref T.heap.size).category = 1 := rfl
  have hcellA : T1.heap[T.heap.size]? = some (freshCell cX kX) := by rw [← hT1]; exact State.heap_pushCell_size _ _
  have d3' : decode c.code (pc + 3) = .ok (.dup, 1) := by rw [hb]; exact d3
  have d4' : decode c.code (pc + 4) = .ok (.ldc_w is, 3) := by rw [hb]; exact d4
  have hstr' : vk_R own is text sa s' := vk_R.warm hW0 hstr
  obtain ⟨U, hsteps, hrun, hend, hW, hsame, ce, hce, hO⟩ := X₁.ctorThrowS hexec htr (own := own) (cls := cls) (names := names) (ic := ic) hown' hcls hnames h (fun x hx => nomatch hx) hfX hkX hcellA (by rw [hhp, hT]; exact Nat.le_refl _) (msg := .ref sa) rfl
    (g := { method := m, pc := pc + 7, locals := ls, stack := .ref sa :: .ref T.heap.size :: .ref T.heap.size :: rest, locked := none }) rfl hsize rfl rfl (rest := rest) rfl
    (by rw [hb]; exact d7) (by rw [hb]; exact d10) hout hRframes (by simp only [List.map_cons, List.sum_cons, hcat]; omega) hlocks
  obtain ⟨f1, f2⟩ := vx_frame hsame
  rw [hhp] at f1 f2
  have hWs : s.WarmedH U.vm := State.WarmedH.trans hW0 hW
  have hcl : s.vm.findClass cls = some ce.cls := by
    have h9 := hO.cls
    rw [hvm] at h9
    exact h9
  have hall : s.sameButNew ({ U with vm := s.vm } : State) locs mc ms := by
    subst hA
    obtain ⟨e1, e2⟩ := hsame
    rw [State.setFrames_setFrames] at e1
    have h2 : (T.setVm s.vm).sameButNew ({ U with vm := s.vm } : State) [] (0 + 1) (0 + 6) := ⟨e1, e2⟩
    have h3 := X.same.trans h2
    rw [List.append_nil] at h3
    exact h3.mono hc hs
  refine ⟨U, ?_, .threw T.heap.size, hrun, hend, Or.inr ⟨T.heap.size, rfl, cls, ce, locs, hx U hWs.alike f1 (fun q hq => f2 q hq (fun z hz => nomatch hz)), hce, hO.vm, hcl, hWs, hall, hf⟩⟩
  refine st1 _ ?_
  show Steps p.tables e below (T1.setTop { method := m, pc := pc + 3, locals := ls, stack := .ref T.heap.size :: rest, locked := none }) _
  jvm_step X₁.here [X₁.here.top, hexec, d3', Value.category]
  exact X₁.ldcStringW hexec (own := own) (text := text) (index := is) (a := sa) hown' hstr'.1 hstr'.2
    (g := { method := m, pc := pc + 4, locals := ls, stack := .ref T.heap.size :: .ref T.heap.size :: rest, locked := none }) rfl d4' _ hsteps
end Ends
section Bodies
variable {l : Launch}
theorem vx_ofW {y : MethodName} {ws ws' : List Cond} {rm : Room} {Pc : Array Value → State → Prop} {Qc : Array Value → State → Outcome → State → Prop} {XC : String → State → State → Prop} {mc ms : Nat} {free : Addr → Prop} {cc : ByteArray} {maxL : Nat} {ret : Option FieldType}
    (hy : plainName y.cls = true) (hw : ws = Cond.code y cc maxL ret :: ws')
    (body : ∀ p e s m args below meth c s₁, BodyLoose p l y (headSpec ws rm) cc maxL ret e s m args below meth c s₁ → c.maxLocals = maxL → (∀ x ∈ c.exceptionTable.toList, False) → Pc args s →
      W p l e (headSpec ws rm).room s m args below meth c s.heap [] 0 0 (vx_MQ below Qc XC args s mc ms free) (entryFrame m args maxL)) : vx_Met l y ws rm Pc Qc XC mc ms free := by
  refine MetFree.of_bodyS (code := cc) (maxLocals := maxL) (ret := ret) hy ?_ ?_
  · intro args s m h hn
    obtain ⟨meth, c, h1, h2, h3, h4, h5, h6, -, -⟩ := Cond.code_spec hn (atoms_spec (ws := ws) h _ (by rw [hw]; exact List.mem_cons_self))
    exact ⟨meth, c, h1, h2, h3, h4, h5, h6⟩
  · intro p e s m args below meth c s₁ B hml hP _
    have hh0 : s₁.heap = s.heap := by rw [B.state]; rfl
    have ht : ∀ x ∈ c.exceptionTable.toList, False := by
      obtain ⟨meth9, c9, h1, h2, -, -, -, -, h7, -⟩ := Cond.code_spec B.named (atoms_spec (ws := ws) B.pre _ (by rw [hw]; exact List.mem_cons_self))
      cases Option.some.inj (h1.symm.trans B.method)
      cases Option.some.inj (h2.symm.trans (Stand.of_body B).code)
      intro x hx
      rw [Array.isEmpty_iff.mp h7] at hx
      cases hx
    obtain ⟨t, a1, o, b1, b2, b3⟩ := body p e s m args below meth c s₁ B hml ht hP s₁ hh0 (Stand.of_body B)
    exact ⟨t, o, a1, b1, b2, b3⟩
/-- the table of a body with handlers -/
theorem vx_table {p : Program} {x y : MethodName} {S : Spec} {cc bytes : ByteArray} {maxL maxL' : Nat} {ret ret' : Option FieldType} {e : Env} {s s₁ : State} {m : MethodId} {args : Array Value} {below : List Frame} {meth : Method} {c : Code} {hh : List (Nat × Nat × Nat × Nat)}
    (B : BodyLoose p l y S cc maxL ret e s m args below meth c s₁) (h : (Cond.codeWith y bytes maxL' ret' hh).before args s = true) : c.exceptionTable.toList = tableOf hh := by
  obtain ⟨m9, meth9, c9, hn9, h1, h2, -, -, h6, -⟩ := Cond.codeWith_spec h
  cases Option.some.inj (hn9.symm.trans B.named)
  cases Option.some.inj (h1.symm.trans B.method)
  cases Option.some.inj (h2.symm.trans (Stand.of_body B).code)
  rw [← h6, table_eq]
end Bodies
end VXA
/-! ===== END ===== -/
/-! ===== BEGIN a static call of a method with an exception table ===== -/
section VXS
variable {p : Program} {l : Launch} {e : Env} {R : Room} {s : State} {m : MethodId} {args : Array Value} {below : List Frame} {meth : Method} {c : Code} {T : State} {H : Heap} {locs : List Loc} {cells slots : Nat}
abbrev vx_CSW (R : Room) (s : State) (args : Array Value) (own : String) (index : Nat) (y : MethodName) (bytes : ByteArray) (maxL : Nat) (ret : Option FieldType) (hh : List (Nat × Nat × Nat × Nat)) (ws : List Cond) (rm : Room) (mc ms n : Nat) : Prop :=
  (rm.cells = mc ∧ rm.slots = ms ∧ rm.frames + 1 ≤ R.frames ∧ 8 + (maxL + 11) + rm.locals ≤ R.locals ∧ (∀ w ∈ ws, ∀ (a' : Array Value) (U : State), s.WarmedH U.vm → w.before a' U = true) ∧ Cond.codeWith y bytes maxL ret hh ∈ ws) ∧
  (Cond.codeWith y bytes maxL ret hh).before args s = true ∧ (Cond.initialized y.cls).before args s = true ∧ (y.cls ≠ "java/lang/invoke/MethodHandle" ∧ y.cls ≠ "java/lang/invoke/VarHandle") ∧
  (∀ sig, parseMethodDescriptor y.desc = some sig → n = sig.parameters.length) ∧ (Cond.methodLink own index y).before args s = true ∧ (Cond.static y).before args s = true
theorem vx_cwSW {own : String} {index maxL mc ms : Nat} {y : MethodName} {bytes : ByteArray} {ret : Option FieldType} {hh : List (Nat × Nat × Nat × Nat)} {Ts ws ws' : List Cond} {rm : Room} (n : Nat) (ht : ∀ w ∈ Ts, w.before args s = true) (hT : GoodIn Ts (va_wsS own index y ws)) (hw : ws = Cond.codeWith y bytes maxL ret hh :: ws') (hrc : rm.cells = mc) (hrs : rm.slots = ms)
    (hd : y.cls ≠ "java/lang/invoke/MethodHandle" ∧ y.cls ≠ "java/lang/invoke/VarHandle" ∧ (parseMethodDescriptor y.desc).map (fun d => d.parameters.length) = some n) (hR : rm.frames + 1 ≤ R.frames ∧ 8 + (maxL + 11) + rm.locals ≤ R.locals) :
    vx_CSW R s args own index y bytes maxL ret hh ws rm mc ms n := by
  have ok : ∀ w ∈ va_wsS own index y ws, w.before args s = true := fun w h => ht w (hT w h).1
  have hG : GoodIn Ts ws := fun w h => hT w (by unfold va_wsS; exact List.mem_append_right _ h)
  have hc : Cond.codeWith y bytes maxL ret hh ∈ ws := by rw [hw]; exact List.mem_cons_self
  refine ⟨⟨hrc, hrs, hR.1, hR.2, pay_in ht hG, hc⟩, ht _ (hG _ hc).1, ok _ (by simp [va_wsS]), ⟨hd.1, hd.2.1⟩, fun sig h => ?_, ok _ (by simp [va_wsS]), ok _ (by simp [va_wsS])⟩
  have h2 := hd.2.2
  rw [h] at h2
  exact (Option.some.inj h2).symm
theorem vx_callSW (X : Stand p l e R s m args below meth c T locs cells slots) (hexec : p.tables.exec = Jvm.exec) {own : String} {index : Nat} {y : MethodName} {bytes : ByteArray} {maxL : Nat} {ret : Option FieldType} {hh : List (Nat × Nat × Nat × Nat)}
    (hown : s.vm.findClass own = some m.cls) (hlink : (Cond.methodLink own index y).before args s = true) (hstat : (Cond.static y).before args s = true) (hinit : (Cond.initialized y.cls).before args s = true)
    (hcode : (Cond.codeWith y bytes maxL ret hh).before args s = true) (hy : y.cls ≠ "java/lang/invoke/MethodHandle" ∧ y.cls ≠ "java/lang/invoke/VarHandle")
    {W9 : Nat} {Pre : Pt → Array Value → Prop} {Post : Pt → Array Value → Option Value → Pt → Prop} (hK : Back l R p e below s args y 3 W9 Pre Post)
    {g : JFrame} (hg : g.method = m) (hsize : g.locals.size = c.maxLocals) {argsL rest : List Value} (hlen : ∀ sig, parseMethodDescriptor y.desc = some sig → argsL.length = sig.parameters.length)
    (hstack : g.stack = argsL.reverse ++ rest) (hW : 2 * g.monitorRoom + (rest.map fun v => v.category).sum ≤ W9) (hdg : decode c.code g.pc = .ok (.invokestatic index, 3))
    (hpre : ∀ vm₁, s.WarmedH vm₁ → Pre ⟨T.setVm vm₁, locs, cells, slots⟩ argsL.toArray) :
    ∃ (v : Option Value) (vm₁ : Vm) (B : Pt), s.WarmedH vm₁ ∧ Stand p l e R s m args below meth c B.U B.locs B.cells B.slots ∧ Post ⟨T.setVm vm₁, locs, cells, slots⟩ argsL.toArray v B ∧
      ∀ target, Steps p.tables e below (B.U.setTop { g with pc := g.pc + 3, stack := v.toList ++ rest }) target → Steps p.tables e below (T.setTop g) target := by
  obtain ⟨mk, methM, cM, hnamed, hmethM, -, -, -, -, -, -, hsigM⟩ := Cond.codeWith_spec hcode
  have hstatic : methM.isStatic = true := Cond.static_spec hnamed hmethM hstat
  obtain ⟨kP, hkP, -⟩ := className_of_methodNamed hnamed
  have hinitP : kP.init = .initialized := Cond.initialized_spec (findClass_of_methodNamed hnamed) hkP hinit
  obtain ⟨vm₁, X₁, hstep₁⟩ := X.invokestatic hexec hown hlink hnamed hmethM hstatic hkP hinitP hy (g := g) hg (argsL := argsL) (rest := rest) (hlen _ hsigM) hstack hdg
  obtain ⟨v, B, X', hpost, hsteps⟩ := hK m meth c ⟨T.setVm vm₁, locs, cells, slots⟩ { g with stack := rest } (.invokestatic index) mk argsL.toArray X₁ hg hsize hdg hW (X₁.named hnamed) (hpre vm₁ X₁.warmed)
  exact ⟨v, vm₁, B, X₁.warmed, X', hpost, fun target h => hstep₁ _ fun acts => by rw [doInvoke_state]; exact hsteps.trans h⟩
theorem vx_runSW {y : MethodName} {bytes cc : ByteArray} {maxL nL mc ms n index : Nat} {ret : Option FieldType} {hh : List (Nat × Nat × Nat × Nat)} {ws : List Cond} {rm : Room} {Pc : Array Value → State → Prop} {Qc : Array Value → State → Outcome → State → Prop} {free : Addr → Prop} {Ts : List Cond} {own : String} {As rest : List Value} {g : JFrame}
    (S : CallFix p m c cc nL s args Ts own) (hM : Met l y ws rm Pc Qc mc ms free) (cw : vx_CSW R s args own index y bytes maxL ret hh ws rm mc ms n) (hp : PreS s H Pc As)
    (hg : g.method = m) (hn : As.length = n) (hsize : g.locals.size = nL) (hstack : g.stack = As.reverse ++ rest) (hW : 2 * g.monitorRoom + (rest.map fun v => v.category).sum ≤ 8) (hdg : decode cc g.pc = .ok (.invokestatic index, 3)) (hf : cells + mc ≤ R.cells ∧ slots + ms ≤ R.slots) :
    va_Run p l e R s m args below meth c H locs cells slots mc ms g rest (Qc As.toArray) (free) := by
  obtain ⟨⟨hrc, hrs, hfr, hlo, hws, hcw⟩, hcode, hini, hy, hlen, hl, hstt⟩ := cw
  have hK : Back l R p e below s args y 3 8 (PreOf R mc ms Pc) (PostOf Qc mc ms free) := va_backW (hh := hh) (bytes := bytes) (maxL := maxL) (ret := ret) hM hp.1 hrc hrs hfr hlo hws hcw (fun a' U hW => word_at hW (Or.inl (by first | rfl | simp [Cond.onTables, Cond.keeps, Cond.steady])) hini)
  obtain ⟨hx, hb, hml, ho, -⟩ := S
  intro T hT X
  obtain ⟨v, vm₁, ⟨U', l2, c2, s2⟩, hW₁, X', ⟨g', mk, t, L, e1, e2, hq, h1, hL, h2, h3⟩, st⟩ := vx_callSW X hx (hh := hh) (bytes := bytes) (maxL := maxL) (ret := ret) ho hl hstt hini hcode hy hK hg (hsize.trans hml.symm) (argsL := As) (rest := rest) (fun sig h => hn.trans (hlen sig h)) hstack hW (by rw [hb]; exact hdg)
    (fun vm₁ hW₁ => ⟨hf.1, hf.2, hp.2 (T.setVm vm₁) hT hW₁⟩)
  dsimp only [Pt.U, Pt.locs, Pt.cells, Pt.slots] at X' e1 e2 h1 h2 h3 st
  subst h1; subst h2; subst h3
  exact ⟨v, (T.setVm vm₁).calling g' mk As.toArray, t, U', L, hT, X', hL, e1, e2, hq, st⟩
/-- not caught here, past rows that name other classes: it goes on to the caller -/
theorem vx_outP {p : Program} {l : Launch} {e : Env} {R : Room} {s : State} {m : MethodId} {args : Array Value} {below : List Frame} {meth : Method} {c : Code} {H : Heap} {locs : List Loc} {cells slots : Nat} {free : Addr → Prop} {ls : Array Slot} {rest : List Value} {Qc : Array Value → State → Outcome → State → Prop} {XC : String → State → State → Prop}
    {pc : Nat} {own E : String} {ce : Cell} {q : Addr} {mc ms : Nat} (hown : s.vm.findClass own = some m.cls) (hlocks : meth.locks = false)
    (hpass : ∀ z ∈ c.exceptionTable.toList, covers z pc = false ∨ (z.catchType ≠ 0 ∧ ∃ nm : String, (Cond.classLink own z.catchType nm).before args s = true ∧ va_Nc E nm s)) (hcell : H[q]? = some ce) (hv : ce.vm = .none) (hcl : s.vm.findClass E = some ce.cls)
    (hx : ∀ t : State, t.heap = H → s.vm.Alike t.vm → XC E s t) (hf : ∀ z ∈ locs, free z.base) (hc : cells ≤ mc) (hs : slots ≤ ms) :
    vx_W p l e R s m args below meth c H locs cells slots (vx_MQ below Qc XC args s mc ms free) (F0 m pc ls rest) q := by
  intro T hT X
  have hpl : e.platform.magicAccessors = ({} : Platform).magicAccessors := by rw [X.admits.platform]
  obtain ⟨vm', hW', X', st⟩ := X.outThrough hlocks q (g := F0 m pc ls rest) rfl rfl rfl (cell := ce) (by rw [hT]; exact hcell) (by rw [hv]; rfl)
    (by obtain ⟨k9, h9, -⟩ := Vm.findClass_spec hcl; exact ⟨k9, h9⟩) (fun z hz => by
      rcases hpass z hz with h | ⟨hz0, nm, hl1, hn1⟩
      · exact Or.inl h
      · obtain ⟨c6, hc6, hcl6⟩ := Cond.classLink_spec hown hl1 e.platform hpl
        obtain ⟨a8, b8, h1, h2, h3⟩ := hn1
        cases Option.some.inj (h1.symm.trans hcl)
        cases Option.some.inj (h2.symm.trans hc6)
        exact Or.inr ⟨hz0, _, hcl6, h3⟩)
  obtain ⟨g₀, hfr⟩ := X'.frames_eq
  have hcell9 : ((T.setVm vm').setFrames (.throwing q :: below)).heap[q]? = some ce := by
    show T.heap[q]? = some ce
    rw [hT]; exact hcell
  have hend : Ended ((T.setVm vm').setFrames (.throwing q :: below)) below (.threw q) := State.frames_setFrames _ (State.cur_lt_of_frames hfr)
  refine ⟨(T.setVm vm').setFrames (.throwing q :: below), ?_, .threw q, X'.here.running, hend, Or.inr ⟨q, rfl, E, ce, locs, hx _ hT (X'.ends _).1.alike, hcell9, hv, hcl, (X'.ends _).1, (X'.ends _).2.mono hc hs, hf⟩⟩
  rw [X.pushThrowing_eq]
  exact st
/-- a thing of a world lies in the heap -/
theorem vx_lt {D : va_G} {cl : List vw_C} {ws : va_W} {H1 : Heap} (h : va_P D cl ws H1) {k : Nat} {q : Nat × va_E} (hk : ws[k]? = some q) : q.1 < H1.size := (h k q hk).lt
end VXS
/-! ===== END ===== -/
/-! ===== BEGIN methods with a table of their own: called by a name, returning or throwing ===== -/
section VXH
/-! vx_backW, vx_callVX, vx_callSX, vx_callVW, vx_runVW, vx_runVX, vx_runSX, vx_ofWH follow the same proofs as their sisters above (Free/Laws.lean, Shelf42/LK1.lean); vx_outP calls Shelf42/NT130.lean (outThrough). -/
section
variable {l : Launch} {R : Room} {p : Program} {e : Env} {below : List Frame} {s : State} {sargs : Array Value} {y : MethodName} {len W9 : Nat}
theorem vx_backW {ws : List Cond} {rm : Room} {Pc : Array Value → State → Prop} {Qc : Array Value → State → Outcome → State → Prop} {XC : String → State → State → Prop} {mc ms : Nat} {free : Addr → Prop} {bytes : ByteArray} {maxL : Nat} {ret : Option FieldType} {hh : List (Nat × Nat × Nat × Nat)}
    (hM : vx_Met l y ws rm Pc Qc XC mc ms free) (hblind : FrameBlind Pc) (hrc : rm.cells = mc) (hrs : rm.slots = ms)
    (hframes : rm.frames + 1 ≤ R.frames) (hlocals : W9 + (maxL + 11) + rm.locals ≤ R.locals)
    (hws : ∀ w ∈ ws, ∀ a' U, s.WarmedH U.vm → w.before a' U = true) (hcode : Cond.codeWith y bytes maxL ret hh ∈ ws) (hinit : ∀ a' U, s.WarmedH U.vm → (Cond.initialized y.cls).before a' U = true) :
    vx_Back l R p e below s sargs y len W9 (PreOf R mc ms Pc) (PostOf Qc mc ms free) (vx_Post XC mc ms free) := by
  intro m meth c A g ig mk a X hg hsize hdg hW hn hp
  have h1 : (headSpec ws rm).pre.before a A.U = true := atoms_intro fun w hw => hws w hw _ _ X.warmed
  have h2 : (Cond.codeWith y bytes maxL ret hh).before a A.U = true := hws _ hcode _ _ X.warmed
  have h3 : (Cond.initialized y.cls).before a A.U = true := hinit _ _ X.warmed
  have h4 : A.cells + (headSpec ws rm).room.cells ≤ R.cells := by rw [show (headSpec ws rm).room.cells = mc from hrc]; exact hp.1
  have h5 : A.slots + (headSpec ws rm).room.slots ≤ R.slots := by rw [show (headSpec ws rm).room.slots = ms from hrs]; exact hp.2.1
  have hPc : Pc a (A.U.calling g mk a) := hblind _ _ _ _ hp.2.2
  obtain ⟨U, Ls, c0, s0⟩ := A
  dsimp only [Pt.U, Pt.locs, Pt.cells, Pt.slots] at h1 h2 h3 h4 h5 X hn hPc ⊢
  obtain ⟨m9, methY, cY, hn9, hmY, hcY, -, hlY, -⟩ := Cond.codeWith_spec h2
  cases Option.some.inj (hn9.symm.trans hn)
  obtain ⟨kY, hkY, -⟩ := className_of_methodNamed hn
  have hinitY : kY.init = .initialized := Cond.initialized_spec (findClass_of_methodNamed hn) hkY h3
  have h : At U g.method c below := by rw [hg]; exact X.here
  have hlocals9 : W9 + (maxL + 11) + (headSpec ws rm).room.locals ≤ R.locals := hlocals
  have happ : (headSpec ws rm).appliesLoose y e.platform (U.calling g mk a) = true :=
    Spec.appliesLoose_calling (g := g) h hdg hn hkY hinitY
      (X.room_calling (g := g) (R' := (headSpec ws rm).room) hsize hmY hcY hframes (by rw [hlY]; omega) h4 h5) h1
  obtain ⟨mid, hmid⟩ := h.above
  have hfr : (U.setTop g).frames = (.java g :: mid) ++ below := by rw [State.frames_setTop' g h.top, hmid]; rfl
  obtain ⟨o, s₂, hsteps, -, hend, hq⟩ := Steps.callFree hM p X.admits X.cas X.clock (acts := []) hfr happ hPc trivial
  have hq' : vx_Q Qc XC mc ms free a (U.calling g mk a) o s₂ := hq
  rw [State.frames_setTop' g h.top] at hend
  obtain ⟨g₀, hg0⟩ := Option.isSome_iff_exists.mp h.top
  obtain ⟨r, hr⟩ := State.topJava?_eq_some.mp hg0
  have hr' : (({ U with heap := s₂.heap, slotsUsed := s₂.slotsUsed } : State).setVm s₂.vm).frames = .java g₀ :: r := hr
  rcases hq' with ⟨hqc, L, hfe, hL⟩ | ⟨q, rfl, E, ce, L, hx, hce, hcv, hcl, hW₂, hsm, hL⟩
  · obtain ⟨⟨v, rfl⟩, hW₂, e2, q2, q3, q4, q5, q6⟩ := id hfe
    have e3 : s₂ = ({ (U.calling g mk a).setFrames s₂.frames with heap := s₂.heap, slotsUsed := s₂.slotsUsed } : State).setVm s₂.vm := by
      have : s₂ = ({ s₂ with vm := (U.calling g mk a).vm } : State).setVm s₂.vm := rfl
      rw [e2] at this
      exact this
    obtain ⟨c₂, i₂, len₂, hc₂, hd₂, hf₂⟩ := hend
    have hW' : U.WarmedH s₂.vm := hW₂
    have hcc : c₂ = c := by
      have h1 : s₂.code? g.method = U.code? g.method := by
        rw [State.code?_eq, State.code?_eq, hW'.alike.method?]
      exact Option.some.inj (hc₂.symm.trans (h1.trans h.code))
    subst hcc
    have hlen : len₂ = len := by rw [hdg] at hd₂; cases hd₂; rfl
    subst hlen
    have hs₂ : s₂ = (({ U with heap := s₂.heap, slotsUsed := s₂.slotsUsed } : State).setVm s₂.vm).setTop { g with pc := g.pc + len₂, stack := v.toList ++ g.stack } := by
      refine e3.trans ?_
      rw [hf₂, State.calling_eq h.top, State.setFrames_setFrames, State.setTop_of_frames _ hr', hr]
      rfl
    have hsame : U.sameButNew ({ U with heap := s₂.heap, slotsUsed := s₂.slotsUsed } : State) L mc ms := by
      refine ⟨?_, q2, q3, q4, q5, q6⟩
      obtain ⟨t, ht, -⟩ := State.frames_cons hr
      show ({ U with heap := s₂.heap, slotsUsed := s₂.slotsUsed } : State) = { U.setFrames U.frames with heap := s₂.heap, slotsUsed := s₂.slotsUsed }
      rw [State.setFrames_self ht]
    subst hg
    refine Or.inl ⟨v, ⟨(({ U with heap := s₂.heap, slotsUsed := s₂.slotsUsed } : State).setVm s₂.vm), Ls ++ L, c0 + mc, s0 + ms⟩,
      ⟨X.admits, X.cas, X.clock, X.frames, X.room, X.hears, X.method, X.code, (X.here.setHeapUsed s₂.heap s₂.slotsUsed).setVm hW'.alike, X.tail, State.WarmedH.trans X.warmed hW', X.limits, X.bytes, X.same.trans (hsame.setVm s.vm)⟩,
      ⟨g, mk, s₂, L, rfl, rfl, hqc, rfl, hL, rfl, rfl⟩, ?_⟩
    show Steps p.tables e below _ ((({ U with heap := s₂.heap, slotsUsed := s₂.slotsUsed } : State).setVm s₂.vm).setTop { g with pc := g.pc + len₂, stack := v.toList ++ g.stack })
    rw [← hs₂]
    exact hsteps
  · obtain ⟨e2, q2, q3, q4, q5, q6⟩ := id hsm
    have e3 : s₂ = ({ (U.calling g mk a).setFrames s₂.frames with heap := s₂.heap, slotsUsed := s₂.slotsUsed } : State).setVm s₂.vm := by
      have : s₂ = ({ s₂ with vm := (U.calling g mk a).vm } : State).setVm s₂.vm := rfl
      rw [e2] at this
      exact this
    have hf₂ : s₂.frames = .throwing q :: .java g :: U.frames.tail := hend
    have hW' : U.WarmedH s₂.vm := hW₂
    have hs₂ : s₂ = ((({ U with heap := s₂.heap, slotsUsed := s₂.slotsUsed } : State).setVm s₂.vm).setTop g).pushFrame (.throwing q) := by
      refine e3.trans ?_
      rw [hf₂, State.calling_eq h.top, State.setFrames_setFrames, State.pushFrame, State.frames_setTop _ hr', State.setTop_of_frames _ hr', State.setFrames_setFrames, hr]
      rfl
    have hsame : U.sameButNew ({ U with heap := s₂.heap, slotsUsed := s₂.slotsUsed } : State) L mc ms := by
      refine ⟨?_, q2, q3, q4, q5, q6⟩
      obtain ⟨t, ht, -⟩ := State.frames_cons hr
      show ({ U with heap := s₂.heap, slotsUsed := s₂.slotsUsed } : State) = { U.setFrames U.frames with heap := s₂.heap, slotsUsed := s₂.slotsUsed }
      rw [State.setFrames_self ht]
    subst hg
    refine Or.inr ⟨q, ⟨(({ U with heap := s₂.heap, slotsUsed := s₂.slotsUsed } : State).setVm s₂.vm), Ls ++ L, c0 + mc, s0 + ms⟩,
      ⟨X.admits, X.cas, X.clock, X.frames, X.room, X.hears, X.method, X.code, (X.here.setHeapUsed s₂.heap s₂.slotsUsed).setVm hW'.alike, X.tail, State.WarmedH.trans X.warmed hW', X.limits, X.bytes, X.same.trans (hsame.setVm s.vm)⟩,
      ⟨g, mk, s₂, L, E, ce, rfl, rfl, hx, hce, hcv, hcl, rfl, hL, rfl, rfl⟩, ?_⟩
    show Steps p.tables e below _ (((({ U with heap := s₂.heap, slotsUsed := s₂.slotsUsed } : State).setVm s₂.vm).setTop g).pushFrame (.throwing q))
    rw [← hs₂]
    exact hsteps
end
variable {p : Program} {l : Launch} {e : Env} {R : Room} {s : State} {m : MethodId} {args : Array Value} {below : List Frame} {meth : Method} {c : Code} {T : State} {H : Heap} {locs : List Loc} {cells slots : Nat}
theorem vx_callVX (X : Stand p l e R s m args below meth c T locs cells slots) (hexec : p.tables.exec = Jvm.exec) {own C : String} {index : Nat} {y : MethodName} {bytes : ByteArray} {maxL : Nat} {ret : Option FieldType} {hh : List (Nat × Nat × Nat × Nat)}
    (hown : s.vm.findClass own = some m.cls) (hlink : (Cond.methodLink own index y).before args s = true) (hinst : (Cond.instanceMethod y).before args s = true) (hsel : (Cond.selects C y y).before args s = true)
    (hcode : (Cond.codeWith y bytes maxL ret hh).before args s = true) (hy : y.cls ≠ "java/lang/invoke/MethodHandle" ∧ y.cls ≠ "java/lang/invoke/VarHandle")
    {W9 : Nat} {Pre : Pt → Array Value → Prop} {Post : Pt → Array Value → Option Value → Pt → Prop} {PostX : Pt → Array Value → Addr → Pt → Prop} (hK : vx_Back l R p e below s args y 3 W9 Pre Post PostX)
    {b : Addr} {cellB : Cell} (hcell : T.heap[b]? = some cellB) (hobj : cellB.vm.isStatics = false) (hcls : s.vm.findClass C = some cellB.cls)
    {g : JFrame} (hg : g.method = m) (hsize : g.locals.size = c.maxLocals) {argsL rest : List Value} (hlen : ∀ sig, parseMethodDescriptor y.desc = some sig → argsL.length = sig.parameters.length)
    (hstack : g.stack = argsL.reverse ++ .ref b :: rest) (hW : 2 * g.monitorRoom + (rest.map fun v => v.category).sum ≤ W9) (hdg : decode c.code g.pc = .ok (.invokevirtual index, 3))
    (hpre : ∀ vm₁, s.WarmedH vm₁ → Pre ⟨T.setVm vm₁, locs, cells, slots⟩ (Value.ref b :: argsL).toArray) :
    (∃ (v : Option Value) (vm₁ : Vm) (B : Pt), s.WarmedH vm₁ ∧ Stand p l e R s m args below meth c B.U B.locs B.cells B.slots ∧ Post ⟨T.setVm vm₁, locs, cells, slots⟩ (Value.ref b :: argsL).toArray v B ∧
      ∀ target, Steps p.tables e below (B.U.setTop { g with pc := g.pc + 3, stack := v.toList ++ rest }) target → Steps p.tables e below (T.setTop g) target) ∨
    (∃ (q : Addr) (vm₁ : Vm) (B : Pt), s.WarmedH vm₁ ∧ Stand p l e R s m args below meth c B.U B.locs B.cells B.slots ∧ PostX ⟨T.setVm vm₁, locs, cells, slots⟩ (Value.ref b :: argsL).toArray q B ∧
      Steps p.tables e below (T.setTop g) ((B.U.setTop { g with stack := rest }).pushFrame (.throwing q))) := by
  obtain ⟨mk, methM, hnamed, hmethM, hstM, habM⟩ := Cond.instanceMethod_spec hinst
  obtain ⟨m8, methM', cM, hn8, hmethM', -, -, -, -, -, -, hsigM⟩ := Cond.codeWith_spec hcode
  cases Option.some.inj (hn8.symm.trans hnamed)
  cases hmethM.symm.trans hmethM'
  obtain ⟨c2, r2, m2, q1, q2, q3, q4, kP, hkP, hkPi⟩ := Cond.selects_spec hsel
  cases hcls.symm.trans q1
  cases (State.methodFound?_of_named hnamed hy).symm.trans q2
  cases hnamed.symm.trans q3
  have hselP : selectMethod e.platform s.vm cellB.cls mk = .method mk := by rw [Launch.admits_selectMethod X.admits]; exact q4
  obtain ⟨vm₁, X₁, hstep₁⟩ := X.invokevirtual hexec hown hlink hnamed hmethM hstM hkP hkPi hy (a := b) (cell := cellB) hcell
    (fun z h => by rw [h] at hobj; cases hobj) hselP hmethM habM hkP hkPi (g := g) hg (argsL := argsL) (rest := rest) (hlen _ hsigM) hstack hdg
  rcases hK m meth c ⟨T.setVm vm₁, locs, cells, slots⟩ { g with stack := rest } (.invokevirtual index) mk (Value.ref b :: argsL).toArray X₁ hg hsize hdg hW (X₁.named hnamed) (hpre vm₁ X₁.warmed) with ⟨v, B, X', hpost, hsteps⟩ | ⟨q, B, X', hpost, hsteps⟩
  · exact Or.inl ⟨v, vm₁, B, X₁.warmed, X', hpost, fun target h => hstep₁ _ fun acts => by rw [doInvoke_state]; exact hsteps.trans h⟩
  · exact Or.inr ⟨q, vm₁, B, X₁.warmed, X', hpost, hstep₁ _ fun acts => by rw [doInvoke_state]; exact hsteps⟩
theorem vx_callSX (X : Stand p l e R s m args below meth c T locs cells slots) (hexec : p.tables.exec = Jvm.exec) {own : String} {index : Nat} {y : MethodName} {bytes : ByteArray} {maxL : Nat} {ret : Option FieldType} {hh : List (Nat × Nat × Nat × Nat)}
    (hown : s.vm.findClass own = some m.cls) (hlink : (Cond.methodLink own index y).before args s = true) (hstat : (Cond.static y).before args s = true) (hinit : (Cond.initialized y.cls).before args s = true)
    (hcode : (Cond.codeWith y bytes maxL ret hh).before args s = true) (hy : y.cls ≠ "java/lang/invoke/MethodHandle" ∧ y.cls ≠ "java/lang/invoke/VarHandle")
    {W9 : Nat} {Pre : Pt → Array Value → Prop} {Post : Pt → Array Value → Option Value → Pt → Prop} {PostX : Pt → Array Value → Addr → Pt → Prop} (hK : vx_Back l R p e below s args y 3 W9 Pre Post PostX)
    {g : JFrame} (hg : g.method = m) (hsize : g.locals.size = c.maxLocals) {argsL rest : List Value} (hlen : ∀ sig, parseMethodDescriptor y.desc = some sig → argsL.length = sig.parameters.length)
    (hstack : g.stack = argsL.reverse ++ rest) (hW : 2 * g.monitorRoom + (rest.map fun v => v.category).sum ≤ W9) (hdg : decode c.code g.pc = .ok (.invokestatic index, 3))
    (hpre : ∀ vm₁, s.WarmedH vm₁ → Pre ⟨T.setVm vm₁, locs, cells, slots⟩ argsL.toArray) :
    (∃ (v : Option Value) (vm₁ : Vm) (B : Pt), s.WarmedH vm₁ ∧ Stand p l e R s m args below meth c B.U B.locs B.cells B.slots ∧ Post ⟨T.setVm vm₁, locs, cells, slots⟩ argsL.toArray v B ∧
      ∀ target, Steps p.tables e below (B.U.setTop { g with pc := g.pc + 3, stack := v.toList ++ rest }) target → Steps p.tables e below (T.setTop g) target) ∨
    (∃ (q : Addr) (vm₁ : Vm) (B : Pt), s.WarmedH vm₁ ∧ Stand p l e R s m args below meth c B.U B.locs B.cells B.slots ∧ PostX ⟨T.setVm vm₁, locs, cells, slots⟩ argsL.toArray q B ∧
      Steps p.tables e below (T.setTop g) ((B.U.setTop { g with stack := rest }).pushFrame (.throwing q))) := by
  obtain ⟨mk, methM, cM, hnamed, hmethM, -, -, -, -, -, -, hsigM⟩ := Cond.codeWith_spec hcode
  have hstatic : methM.isStatic = true := Cond.static_spec hnamed hmethM hstat
  obtain ⟨kP, hkP, -⟩ := className_of_methodNamed hnamed
  have hinitP : kP.init = .initialized := Cond.initialized_spec (findClass_of_methodNamed hnamed) hkP hinit
  obtain ⟨vm₁, X₁, hstep₁⟩ := X.invokestatic hexec hown hlink hnamed hmethM hstatic hkP hinitP hy (g := g) hg (argsL := argsL) (rest := rest) (hlen _ hsigM) hstack hdg
  rcases hK m meth c ⟨T.setVm vm₁, locs, cells, slots⟩ { g with stack := rest } (.invokestatic index) mk argsL.toArray X₁ hg hsize hdg hW (X₁.named hnamed) (hpre vm₁ X₁.warmed) with ⟨v, B, X', hpost, hsteps⟩ | ⟨q, B, X', hpost, hsteps⟩
  · exact Or.inl ⟨v, vm₁, B, X₁.warmed, X', hpost, fun target h => hstep₁ _ fun acts => by rw [doInvoke_state]; exact hsteps.trans h⟩
  · exact Or.inr ⟨q, vm₁, B, X₁.warmed, X', hpost, hstep₁ _ fun acts => by rw [doInvoke_state]; exact hsteps⟩
theorem vx_callVW (X : Stand p l e R s m args below meth c T locs cells slots) (hexec : p.tables.exec = Jvm.exec) {own C : String} {index : Nat} {y : MethodName} {bytes : ByteArray} {maxL : Nat} {ret : Option FieldType} {hh : List (Nat × Nat × Nat × Nat)}
    (hown : s.vm.findClass own = some m.cls) (hlink : (Cond.methodLink own index y).before args s = true) (hinst : (Cond.instanceMethod y).before args s = true) (hsel : (Cond.selects C y y).before args s = true)
    (hcode : (Cond.codeWith y bytes maxL ret hh).before args s = true) (hy : y.cls ≠ "java/lang/invoke/MethodHandle" ∧ y.cls ≠ "java/lang/invoke/VarHandle")
    {W9 : Nat} {Pre : Pt → Array Value → Prop} {Post : Pt → Array Value → Option Value → Pt → Prop} (hK : Back l R p e below s args y 3 W9 Pre Post)
    {b : Addr} {cellB : Cell} (hcell : T.heap[b]? = some cellB) (hobj : cellB.vm.isStatics = false) (hcls : s.vm.findClass C = some cellB.cls)
    {g : JFrame} (hg : g.method = m) (hsize : g.locals.size = c.maxLocals) {argsL rest : List Value} (hlen : ∀ sig, parseMethodDescriptor y.desc = some sig → argsL.length = sig.parameters.length)
    (hstack : g.stack = argsL.reverse ++ .ref b :: rest) (hW : 2 * g.monitorRoom + (rest.map fun v => v.category).sum ≤ W9) (hdg : decode c.code g.pc = .ok (.invokevirtual index, 3))
    (hpre : ∀ vm₁, s.WarmedH vm₁ → Pre ⟨T.setVm vm₁, locs, cells, slots⟩ (Value.ref b :: argsL).toArray) :
    ∃ (v : Option Value) (vm₁ : Vm) (B : Pt), s.WarmedH vm₁ ∧ Stand p l e R s m args below meth c B.U B.locs B.cells B.slots ∧ Post ⟨T.setVm vm₁, locs, cells, slots⟩ (Value.ref b :: argsL).toArray v B ∧
      ∀ target, Steps p.tables e below (B.U.setTop { g with pc := g.pc + 3, stack := v.toList ++ rest }) target → Steps p.tables e below (T.setTop g) target := by
  obtain ⟨mk, methM, hnamed, hmethM, hstM, habM⟩ := Cond.instanceMethod_spec hinst
  obtain ⟨m8, methM', cM, hn8, hmethM', -, -, -, -, -, -, hsigM⟩ := Cond.codeWith_spec hcode
  cases Option.some.inj (hn8.symm.trans hnamed)
  cases hmethM.symm.trans hmethM'
  obtain ⟨c2, r2, m2, q1, q2, q3, q4, kP, hkP, hkPi⟩ := Cond.selects_spec hsel
  cases hcls.symm.trans q1
  cases (State.methodFound?_of_named hnamed hy).symm.trans q2
  cases hnamed.symm.trans q3
  have hselP : selectMethod e.platform s.vm cellB.cls mk = .method mk := by rw [Launch.admits_selectMethod X.admits]; exact q4
  obtain ⟨vm₁, X₁, hstep₁⟩ := X.invokevirtual hexec hown hlink hnamed hmethM hstM hkP hkPi hy (a := b) (cell := cellB) hcell
    (fun z h => by rw [h] at hobj; cases hobj) hselP hmethM habM hkP hkPi (g := g) hg (argsL := argsL) (rest := rest) (hlen _ hsigM) hstack hdg
  obtain ⟨v, B, X', hpost, hsteps⟩ := hK m meth c ⟨T.setVm vm₁, locs, cells, slots⟩ { g with stack := rest } (.invokevirtual index) mk (Value.ref b :: argsL).toArray X₁ hg hsize hdg hW (X₁.named hnamed) (hpre vm₁ X₁.warmed)
  exact ⟨v, vm₁, B, X₁.warmed, X', hpost, fun target h => hstep₁ _ fun acts => by rw [doInvoke_state]; exact hsteps.trans h⟩
abbrev vx_CVW (R : Room) (s : State) (args : Array Value) (own C : String) (index : Nat) (y : MethodName) (bytes : ByteArray) (maxL : Nat) (ret : Option FieldType) (hh : List (Nat × Nat × Nat × Nat)) (ws : List Cond) (rm : Room) (mc ms n : Nat) : Prop :=
  (rm.cells = mc ∧ rm.slots = ms ∧ rm.frames + 1 ≤ R.frames ∧ 8 + (maxL + 11) + rm.locals ≤ R.locals ∧ (∀ w ∈ ws, ∀ (a' : Array Value) (U : State), s.WarmedH U.vm → w.before a' U = true) ∧ Cond.codeWith y bytes maxL ret hh ∈ ws) ∧
  (Cond.codeWith y bytes maxL ret hh).before args s = true ∧ (Cond.initialized y.cls).before args s = true ∧ (y.cls ≠ "java/lang/invoke/MethodHandle" ∧ y.cls ≠ "java/lang/invoke/VarHandle") ∧
  (∀ sig, parseMethodDescriptor y.desc = some sig → n = sig.parameters.length) ∧ (Cond.methodLink own index y).before args s = true ∧ (Cond.instanceMethod y).before args s = true ∧ (Cond.selects C y y).before args s = true
theorem vx_cwVW {own C : String} {index maxL mc ms : Nat} {y : MethodName} {bytes : ByteArray} {ret : Option FieldType} {hh : List (Nat × Nat × Nat × Nat)} {Ts ws ws' : List Cond} {rm : Room} (n : Nat) (ht : ∀ w ∈ Ts, w.before args s = true) (hT : GoodIn Ts (wsV own index C y ws)) (hw : ws = Cond.codeWith y bytes maxL ret hh :: ws') (hrc : rm.cells = mc) (hrs : rm.slots = ms)
    (hd : y.cls = C ∧ y.cls ≠ "java/lang/invoke/MethodHandle" ∧ y.cls ≠ "java/lang/invoke/VarHandle" ∧ (parseMethodDescriptor y.desc).map (fun d => d.parameters.length) = some n) (hR : rm.frames + 1 ≤ R.frames ∧ 8 + (maxL + 11) + rm.locals ≤ R.locals) :
    vx_CVW R s args own C index y bytes maxL ret hh ws rm mc ms n := by
  obtain ⟨hC, hd⟩ := hd
  subst hC
  have ok : ∀ w ∈ wsV own index y.cls y ws, w.before args s = true := fun w h => ht w (hT w h).1
  have hG : GoodIn Ts ws := fun w h => hT w (by unfold wsV; exact List.mem_append_right _ h)
  have hc : Cond.codeWith y bytes maxL ret hh ∈ ws := by rw [hw]; exact List.mem_cons_self
  refine ⟨⟨hrc, hrs, hR.1, hR.2, pay_in ht hG, hc⟩, ht _ (hG _ hc).1, ok _ (by simp [wsV]), ⟨hd.1, hd.2.1⟩, fun sig h => ?_, ok _ (by simp [wsV]), ok _ (by simp [wsV]), ok _ (by simp [wsV])⟩
  have h2 := hd.2.2
  rw [h] at h2
  exact (Option.some.inj h2).symm
theorem vx_runVW {y : MethodName} {bytes cc : ByteArray} {maxL nL mc ms n index : Nat} {ret : Option FieldType} {hh : List (Nat × Nat × Nat × Nat)} {ws : List Cond} {rm : Room} {Pc : Array Value → State → Prop} {Qc : Array Value → State → Outcome → State → Prop} {free : Addr → Prop} {Ts : List Cond} {own C : String} {b : Addr} {As rest : List Value} {g : JFrame}
    (S : CallFix p m c cc nL s args Ts own) (hM : Met l y ws rm Pc Qc mc ms free) (cw : vx_CVW R s args own C index y bytes maxL ret hh ws rm mc ms n) (hp : PreV s H C b Pc As)
    (hg : g.method = m) (hn : As.length = n) (hsize : g.locals.size = nL) (hstack : g.stack = As.reverse ++ .ref b :: rest) (hW : 2 * g.monitorRoom + (rest.map fun v => v.category).sum ≤ 8) (hdg : decode cc g.pc = .ok (.invokevirtual index, 3)) (hf : cells + mc ≤ R.cells ∧ slots + ms ≤ R.slots) :
    va_Run p l e R s m args below meth c H locs cells slots mc ms g rest (Qc (Value.ref b :: As).toArray) free := by
  obtain ⟨⟨hrc, hrs, hfr, hlo, hws, hcw⟩, hcode, hini, hy, hlen, hl, hin, hse⟩ := cw
  have hK : Back l R p e below s args y 3 8 (PreOf R mc ms Pc) (PostOf Qc mc ms free) := va_backW (hh := hh) (bytes := bytes) (maxL := maxL) (ret := ret) hM hp.1 hrc hrs hfr hlo hws hcw (fun a' U hW => word_at hW (Or.inl (by first | rfl | simp [Cond.onTables, Cond.keeps, Cond.steady])) hini)
  obtain ⟨hx, hb, hml, ho, -⟩ := S
  obtain ⟨-, ⟨cellB, hcB, hoB, hclB⟩, hPc⟩ := hp
  intro T hT X
  obtain ⟨v, vm₁, ⟨U', l2, c2, s2⟩, hW₁, X', ⟨g', mk, t, L, e1, e2, hq, h1, hL, h2, h3⟩, st⟩ := vx_callVW X hx (C := C) (hh := hh) (bytes := bytes) (maxL := maxL) (ret := ret) ho hl hin hse hcode hy hK (by rw [hT]; exact hcB) hoB hclB hg (hsize.trans hml.symm) (argsL := As) (rest := rest) (fun sig h => hn.trans (hlen sig h)) hstack hW (by rw [hb]; exact hdg)
    (fun vm₁ hW₁ => ⟨hf.1, hf.2, hPc (T.setVm vm₁) hT hW₁⟩)
  dsimp only [Pt.U, Pt.locs, Pt.cells, Pt.slots] at X' e1 e2 h1 h2 h3 st
  subst h1; subst h2; subst h3
  exact ⟨v, (T.setVm vm₁).calling g' mk (Value.ref b :: As).toArray, t, U', L, hT, X', hL, e1, e2, hq, st⟩
section
variable {y : MethodName} {bytes cc : ByteArray} {maxL nL mc ms n index : Nat} {ret : Option FieldType} {ws : List Cond} {rm : Room} {Pc : Array Value → State → Prop} {Qc : Array Value → State → Outcome → State → Prop} {XC : String → State → State → Prop} {free : Addr → Prop} {Ts : List Cond} {own C : String} {b : Addr} {As rest : List Value} {g : JFrame}
theorem vx_runVX {hh : List (Nat × Nat × Nat × Nat)} (S : CallFix p m c cc nL s args Ts own) (hM : vx_Met l y ws rm Pc Qc XC mc ms free) (cw : vx_CVW R s args own C index y bytes maxL ret hh ws rm mc ms n) (hp : PreV s H C b Pc As)
    (hg : g.method = m) (hn : As.length = n) (hsize : g.locals.size = nL) (hstack : g.stack = As.reverse ++ .ref b :: rest) (hW : 2 * g.monitorRoom + (rest.map fun v => v.category).sum ≤ 8) (hdg : decode cc g.pc = .ok (.invokevirtual index, 3)) (hf : cells + mc ≤ R.cells ∧ slots + ms ≤ R.slots) :
    vx_Run p l e R s m args below meth c H locs cells slots mc ms g rest (Qc (Value.ref b :: As).toArray) XC free := by
  obtain ⟨⟨hrc, hrs, hfr, hlo, hws, hcw⟩, hcode, hini, hy, hlen, hl, hin, hse⟩ := cw
  have hK : vx_Back l R p e below s args y 3 8 (PreOf R mc ms Pc) (PostOf Qc mc ms free) (vx_Post XC mc ms free) := vx_backW (hh := hh) (bytes := bytes) (maxL := maxL) (ret := ret) hM hp.1 hrc hrs hfr hlo hws hcw (fun a' U hW => word_at hW (Or.inl (by first | rfl | simp [Cond.onTables, Cond.keeps, Cond.steady])) hini)
  obtain ⟨hx, hb, hml, ho, -⟩ := S
  obtain ⟨-, ⟨cellB, hcB, hoB, hclB⟩, hPc⟩ := hp
  intro T hT X
  rcases vx_callVX X hx (C := C) (hh := hh) (bytes := bytes) (maxL := maxL) (ret := ret) ho hl hin hse hcode hy hK (by rw [hT]; exact hcB) hoB hclB hg (hsize.trans hml.symm) (argsL := As) (rest := rest) (fun sig h => hn.trans (hlen sig h)) hstack hW (by rw [hb]; exact hdg)
    (fun vm₁ hW₁ => ⟨hf.1, hf.2, hPc (T.setVm vm₁) hT hW₁⟩) with ⟨v, vm₁, ⟨U', l2, c2, s2⟩, hW₁, X', ⟨g', mk, t, L, e1, e2, hq, h1, hL, h2, h3⟩, st⟩ | ⟨q, vm₁, ⟨U', l2, c2, s2⟩, hW₁, X', ⟨g', mk, t, L, E, ce, e1, e2, hq, hce, hcv, hcl, h1, hL, h2, h3⟩, st⟩
  · dsimp only [Pt.U, Pt.locs, Pt.cells, Pt.slots] at X' e1 e2 h1 h2 h3 st
    subst h1; subst h2; subst h3
    exact Or.inl ⟨v, (T.setVm vm₁).calling g' mk (Value.ref b :: As).toArray, t, U', L, hT, X', hL, e1, e2, hq, st⟩
  · dsimp only [Pt.U, Pt.locs, Pt.cells, Pt.slots] at X' e1 e2 h1 h2 h3 st hcl
    subst h1; subst h2; subst h3
    exact Or.inr ⟨q, (T.setVm vm₁).calling g' mk (Value.ref b :: As).toArray, t, U', L, E, ce, hT, X', hL, e1, e2, hq, hce, hcv, vx_cls hW₁ hcl, st⟩
theorem vx_runSX {hh : List (Nat × Nat × Nat × Nat)} (S : CallFix p m c cc nL s args Ts own) (hM : vx_Met l y ws rm Pc Qc XC mc ms free) (cw : vx_CSW R s args own index y bytes maxL ret hh ws rm mc ms n) (hp : PreS s H Pc As)
    (hg : g.method = m) (hn : As.length = n) (hsize : g.locals.size = nL) (hstack : g.stack = As.reverse ++ rest) (hW : 2 * g.monitorRoom + (rest.map fun v => v.category).sum ≤ 8) (hdg : decode cc g.pc = .ok (.invokestatic index, 3)) (hf : cells + mc ≤ R.cells ∧ slots + ms ≤ R.slots) :
    vx_Run p l e R s m args below meth c H locs cells slots mc ms g rest (Qc As.toArray) XC free := by
  obtain ⟨⟨hrc, hrs, hfr, hlo, hws, hcw⟩, hcode, hini, hy, hlen, hl, hstt⟩ := cw
  have hK : vx_Back l R p e below s args y 3 8 (PreOf R mc ms Pc) (PostOf Qc mc ms free) (vx_Post XC mc ms free) := vx_backW (hh := hh) (bytes := bytes) (maxL := maxL) (ret := ret) hM hp.1 hrc hrs hfr hlo hws hcw (fun a' U hW => word_at hW (Or.inl (by first | rfl | simp [Cond.onTables, Cond.keeps, Cond.steady])) hini)
  obtain ⟨hx, hb, hml, ho, -⟩ := S
  intro T hT X
  rcases vx_callSX X hx (hh := hh) (bytes := bytes) (maxL := maxL) (ret := ret) ho hl hstt hini hcode hy hK hg (hsize.trans hml.symm) (argsL := As) (rest := rest) (fun sig h => hn.trans (hlen sig h)) hstack hW (by rw [hb]; exact hdg)
    (fun vm₁ hW₁ => ⟨hf.1, hf.2, hp.2 (T.setVm vm₁) hT hW₁⟩) with ⟨v, vm₁, ⟨U', l2, c2, s2⟩, hW₁, X', ⟨g', mk, t, L, e1, e2, hq, h1, hL, h2, h3⟩, st⟩ | ⟨q, vm₁, ⟨U', l2, c2, s2⟩, hW₁, X', ⟨g', mk, t, L, E, ce, e1, e2, hq, hce, hcv, hcl, h1, hL, h2, h3⟩, st⟩
  · dsimp only [Pt.U, Pt.locs, Pt.cells, Pt.slots] at X' e1 e2 h1 h2 h3 st
    subst h1; subst h2; subst h3
    exact Or.inl ⟨v, (T.setVm vm₁).calling g' mk As.toArray, t, U', L, hT, X', hL, e1, e2, hq, st⟩
  · dsimp only [Pt.U, Pt.locs, Pt.cells, Pt.slots] at X' e1 e2 h1 h2 h3 st hcl
    subst h1; subst h2; subst h3
    exact Or.inr ⟨q, (T.setVm vm₁).calling g' mk As.toArray, t, U', L, E, ce, hT, X', hL, e1, e2, hq, hce, hcv, vx_cls hW₁ hcl, st⟩
end
end VXH
theorem vx_ofWH {l : Launch} {y : MethodName} {ws ws' : List Cond} {rm : Room} {Pc : Array Value → State → Prop} {Qc : Array Value → State → Outcome → State → Prop} {XC : String → State → State → Prop} {mc ms : Nat} {free : Addr → Prop} {cc : ByteArray} {maxL : Nat} {ret : Option FieldType} {hh : List (Nat × Nat × Nat × Nat)}
    (hy : plainName y.cls = true) (hw : ws = Cond.codeWith y cc maxL ret hh :: ws')
    (body : ∀ p e s m args below meth c s₁, BodyLoose p l y (headSpec ws rm) cc maxL ret e s m args below meth c s₁ → c.maxLocals = maxL → Pc args s →
      W p l e (headSpec ws rm).room s m args below meth c s.heap [] 0 0 (vx_MQ below Qc XC args s mc ms free) (entryFrame m args maxL)) : vx_Met l y ws rm Pc Qc XC mc ms free := by
  refine MetFree.of_bodyS (code := cc) (maxLocals := maxL) (ret := ret) hy ?_ ?_
  · intro args s m h hn
    obtain ⟨m9, meth, c, hn9, h1, h2, h3, h4, -, h5, h6, -⟩ := Cond.codeWith_spec (atoms_spec (ws := ws) h _ (by rw [hw]; exact List.mem_cons_self))
    cases hn.symm.trans hn9
    exact ⟨meth, c, h1, h2, h3, h4, h5, h6⟩
  · intro p e s m args below meth c s₁ B hml hP _
    have hh0 : s₁.heap = s.heap := by rw [B.state]; rfl
    obtain ⟨t, a1, o, b1, b2, b3⟩ := body p e s m args below meth c s₁ B hml hP s₁ hh0 (Stand.of_body B)
    exact ⟨t, o, a1, b1, b2, b3⟩
/-! ===== END ===== -/
end
section
/-! ===== BEGIN printed: names, fields, word lists, decode rows ===== -/
def RX0 : String := "HostLeague$Bookings"
def TX0 : u_T := fun k => match k with
  | 0 => ("HostLeague$Bookings", "guests", "[I", true)
  | 1 => ("HostLeague$Bookings", "inns", "[I", true)
  | 2 => ("HostLeague$Bookings", "kinds", "[I", true)
  | 3 => ("HostLeague$Bookings", "nights", "[I", true)
  | 4 => ("HostLeague$Bookings", "came", "[Z", true)
  | 5 => ("HostLeague$Bookings", "beds", "[I", true)
  | _ => ("HostLeague$Bookings", "count", "I", false)
def tyX0 : Nat → FieldType := fun k => match k with
  | 0 => .array .int
  | 1 => .array .int
  | 2 => .array .int
  | 3 => .array .int
  | 4 => .array .boolean
  | 5 => .array .int
  | _ => .int
abbrev wsX00 : List Cond := u_ws RX0 TX0 7
theorem nmX0 : ∀ a, a < 7 → ∀ b, b < 7 → a ≠ b → (TX0 a).2.1 ≠ (TX0 b).2.1 := by decide +kernel
theorem tyX0_ok : ∀ k, k < 7 → parseFieldDescriptor (TX0 k).2.2.1 = some (tyX0 k) := by decide +kernel
abbrev cX0_init : ByteArray := prog_2_method_1_code
def yX0_init : MethodName := ⟨RX0, "<init>", "()V"⟩
abbrev cX0_isFull : ByteArray := prog_2_method_2_code
def yX0_isFull : MethodName := ⟨RX0, "isFull", "()Z"⟩
abbrev cX0_add : ByteArray := prog_2_method_3_code
def yX0_add : MethodName := ⟨RX0, "add", "(IIII)I"⟩
abbrev cX0_arrive : ByteArray := prog_2_method_4_code
def yX0_arrive : MethodName := ⟨RX0, "arrive", "(II)V"⟩
abbrev cX0_countFor : ByteArray := prog_2_method_5_code
def yX0_countFor : MethodName := ⟨RX0, "countFor", "(III)I"⟩
abbrev cX0_missedIn : ByteArray := prog_2_method_6_code
def yX0_missedIn : MethodName := ⟨RX0, "missedIn", "(I)I"⟩
abbrev cX0_missedAt : ByteArray := prog_2_method_7_code
def yX0_missedAt : MethodName := ⟨RX0, "missedAt", "(III)I"⟩
abbrev cX0_sleepersAt : ByteArray := prog_2_method_8_code
def yX0_sleepersAt : MethodName := ⟨RX0, "sleepersAt", "(III)I"⟩
def RX1 : String := "HostLeague$Debts"
def TX1 : u_T := fun k => match k with
  | 0 => ("HostLeague$Debts", "purses", "[I", true)
  | _ => ("HostLeague$Debts", "balances", "[I", true)
def tyX1 : Nat → FieldType := fun k => match k with
  | 0 => .array .int
  | _ => .array .int
abbrev wsX10 : List Cond := u_ws RX1 TX1 2
theorem nmX1 : ∀ a, a < 2 → ∀ b, b < 2 → a ≠ b → (TX1 a).2.1 ≠ (TX1 b).2.1 := by decide +kernel
theorem tyX1_ok : ∀ k, k < 2 → parseFieldDescriptor (TX1 k).2.2.1 = some (tyX1 k) := by decide +kernel
abbrev cX1_init : ByteArray := prog_3_method_1_code
def yX1_init : MethodName := ⟨RX1, "<init>", "()V"⟩
abbrev cX1_row : ByteArray := prog_3_method_2_code
def yX1_row : MethodName := ⟨RX1, "row", "(II)I"⟩
abbrev cX1_receive : ByteArray := prog_3_method_3_code
def yX1_receive : MethodName := ⟨RX1, "receive", "(II)V"⟩
abbrev cX1_owe : ByteArray := prog_3_method_4_code
def yX1_owe : MethodName := ⟨RX1, "owe", "(III)V"⟩
abbrev cX1_between : ByteArray := prog_3_method_5_code
def yX1_between : MethodName := ⟨RX1, "between", "(II)I"⟩
abbrev cX1_payAll : ByteArray := prog_3_method_6_code
def yX1_payAll : MethodName := ⟨RX1, "payAll", "()I"⟩
abbrev cX1_pay : ByteArray := prog_3_method_7_code
def yX1_pay : MethodName := ⟨RX1, "pay", "(II)I"⟩
def RX2 : String := "HostLeague$Linen"
def TX2 : u_T := fun k => match k with
  | 0 => ("HostLeague$Linen", "clean", "[I", true)
  | 1 => ("HostLeague$Linen", "used", "[I", true)
  | 2 => ("HostLeague$Linen", "brought", "[I", true)
  | 3 => ("HostLeague$Linen", "washedOneNight", "[I", true)
  | 4 => ("HostLeague$Linen", "due", "[I", true)
  | 5 => ("HostLeague$Linen", "broken", "Z", false)
  | _ => ("HostLeague$Linen", "borrowedTonight", "I", false)
def tyX2 : Nat → FieldType := fun k => match k with
  | 0 => .array .int
  | 1 => .array .int
  | 2 => .array .int
  | 3 => .array .int
  | 4 => .array .int
  | 5 => .boolean
  | _ => .int
abbrev wsX20 : List Cond := u_ws RX2 TX2 7
theorem nmX2 : ∀ a, a < 7 → ∀ b, b < 7 → a ≠ b → (TX2 a).2.1 ≠ (TX2 b).2.1 := by decide +kernel
theorem tyX2_ok : ∀ k, k < 7 → parseFieldDescriptor (TX2 k).2.2.1 = some (tyX2 k) := by decide +kernel
abbrev cX2_init : ByteArray := prog_4_method_1_code
def yX2_init : MethodName := ⟨RX2, "<init>", "()V"⟩
abbrev cX2_addClean : ByteArray := prog_4_method_2_code
def yX2_addClean : MethodName := ⟨RX2, "addClean", "(II)I"⟩
abbrev cX2_changeBroken : ByteArray := prog_4_method_3_code
def yX2_changeBroken : MethodName := ⟨RX2, "changeBroken", "(Z)Z"⟩
abbrev cX2_awayOf : ByteArray := prog_4_method_4_code
def yX2_awayOf : MethodName := ⟨RX2, "awayOf", "(I)I"⟩
abbrev cX2_giverFor : ByteArray := prog_4_method_5_code
def yX2_giverFor : MethodName := ⟨RX2, "giverFor", "(I)I"⟩
abbrev cX2_chargeForBorrowing : ByteArray := prog_4_method_6_code
def yX2_chargeForBorrowing : MethodName := ⟨RX2, "chargeForBorrowing", "()I"⟩
abbrev cX2_take : ByteArray := prog_4_method_7_code
def yX2_take : MethodName := ⟨RX2, "take", "(II)V"⟩
abbrev cX2_endNight : ByteArray := prog_4_method_8_code
def yX2_endNight : MethodName := ⟨RX2, "endNight", "()V"⟩
def RX3 : String := "HostLeague$Points"
def TX3 : u_T := fun k => match k with
  | 0 => ("HostLeague$Points", "guests", "[I", true)
  | 1 => ("HostLeague$Points", "inns", "[I", true)
  | 2 => ("HostLeague$Points", "left", "[I", true)
  | _ => ("HostLeague$Points", "lots", "I", false)
def tyX3 : Nat → FieldType := fun k => match k with
  | 0 => .array .int
  | 1 => .array .int
  | 2 => .array .int
  | _ => .int
abbrev wsX30 : List Cond := u_ws RX3 TX3 4
theorem nmX3 : ∀ a, a < 4 → ∀ b, b < 4 → a ≠ b → (TX3 a).2.1 ≠ (TX3 b).2.1 := by decide +kernel
theorem tyX3_ok : ∀ k, k < 4 → parseFieldDescriptor (TX3 k).2.2.1 = some (tyX3 k) := by decide +kernel
abbrev cX3_init : ByteArray := prog_5_method_1_code
def yX3_init : MethodName := ⟨RX3, "<init>", "()V"⟩
abbrev cX3_add : ByteArray := prog_5_method_2_code
def yX3_add : MethodName := ⟨RX3, "add", "(III)V"⟩
abbrev cX3_ofGuest : ByteArray := prog_5_method_3_code
def yX3_ofGuest : MethodName := ⟨RX3, "ofGuest", "(I)I"⟩
abbrev cX3_takeFrom : ByteArray := prog_5_method_4_code
def yX3_takeFrom : MethodName := ⟨RX3, "takeFrom", "(III)I"⟩
def RX4 : String := "HostLeague$Rooms"
def TX4 : u_T := fun k => match k with
  | 0 => ("HostLeague$Rooms", "counts", "[I", true)
  | 1 => ("HostLeague$Rooms", "prices", "[I", true)
  | _ => ("HostLeague$Rooms", "sleepers", "[I", true)
def tyX4 : Nat → FieldType := fun k => match k with
  | 0 => .array .int
  | 1 => .array .int
  | _ => .array .int
abbrev wsX40 : List Cond := u_ws RX4 TX4 3
theorem nmX4 : ∀ a, a < 3 → ∀ b, b < 3 → a ≠ b → (TX4 a).2.1 ≠ (TX4 b).2.1 := by decide +kernel
theorem tyX4_ok : ∀ k, k < 3 → parseFieldDescriptor (TX4 k).2.2.1 = some (tyX4 k) := by decide +kernel
abbrev cX4_init : ByteArray := prog_6_method_1_code
def yX4_init : MethodName := ⟨RX4, "<init>", "()V"⟩
abbrev cX4_row : ByteArray := prog_6_method_2_code
def yX4_row : MethodName := ⟨RX4, "row", "(II)I"⟩
abbrev cX4_countOf : ByteArray := prog_6_method_3_code
def yX4_countOf : MethodName := ⟨RX4, "countOf", "(II)I"⟩
abbrev cX4_priceOf : ByteArray := prog_6_method_4_code
def yX4_priceOf : MethodName := ⟨RX4, "priceOf", "(II)I"⟩
abbrev cX4_sleepersOf : ByteArray := prog_6_method_5_code
def yX4_sleepersOf : MethodName := ⟨RX4, "sleepersOf", "(II)I"⟩
abbrev cX4_freeOf : ByteArray := prog_6_method_6_code
def yX4_freeOf : MethodName := ⟨RX4, "freeOf", "(II)I"⟩
abbrev cX4_change : ByteArray := prog_6_method_7_code
def yX4_change : MethodName := ⟨RX4, "change", "(IIII)I"⟩
abbrev cX4_addSleeper : ByteArray := prog_6_method_8_code
def yX4_addSleeper : MethodName := ⟨RX4, "addSleeper", "(II)V"⟩
abbrev cX4_endNight : ByteArray := prog_6_method_9_code
def yX4_endNight : MethodName := ⟨RX4, "endNight", "()V"⟩
def RX5 : String := "HostLeague"
def TX5 : u_T := fun k => match k with
  | 0 => ("HostLeague", "allRooms", "LHostLeague$Rooms;", true)
  | 1 => ("HostLeague", "linen", "LHostLeague$Linen;", true)
  | 2 => ("HostLeague", "booked", "LHostLeague$Bookings;", true)
  | 3 => ("HostLeague", "earned", "LHostLeague$Points;", true)
  | 4 => ("HostLeague", "debts", "LHostLeague$Debts;", true)
  | _ => ("HostLeague", "tonight", "I", false)
def tyX5 : Nat → FieldType := fun k => match k with
  | 0 => .object "HostLeague$Rooms"
  | 1 => .object "HostLeague$Linen"
  | 2 => .object "HostLeague$Bookings"
  | 3 => .object "HostLeague$Points"
  | 4 => .object "HostLeague$Debts"
  | _ => .int
abbrev wsX50 : List Cond := u_ws RX5 TX5 6
theorem nmX5 : ∀ a, a < 6 → ∀ b, b < 6 → a ≠ b → (TX5 a).2.1 ≠ (TX5 b).2.1 := by decide +kernel
theorem tyX5_ok : ∀ k, k < 6 → parseFieldDescriptor (TX5 k).2.2.1 = some (tyX5 k) := by decide +kernel
abbrev cX5_init : ByteArray := prog_1_method_1_code
def yX5_init : MethodName := ⟨RX5, "<init>", "()V"⟩
abbrev cX5_setRooms : ByteArray := prog_1_method_2_code
def yX5_setRooms : MethodName := ⟨RX5, "setRooms", "(IIII)I"⟩
abbrev cX5_buyLinen : ByteArray := prog_1_method_3_code
def yX5_buyLinen : MethodName := ⟨RX5, "buyLinen", "(II)I"⟩
abbrev cX5_setBroken : ByteArray := prog_1_method_4_code
def yX5_setBroken : MethodName := ⟨RX5, "setBroken", "(Z)Z"⟩
abbrev cX5_book : ByteArray := prog_1_method_5_code
def yX5_book : MethodName := ⟨RX5, "book", "(IIII)I"⟩
abbrev cX5_come : ByteArray := prog_1_method_6_code
def yX5_come : MethodName := ⟨RX5, "come", "(I)I"⟩
abbrev cX5_burn : ByteArray := prog_1_method_7_code
def yX5_burn : MethodName := ⟨RX5, "burn", "(III)I"⟩
abbrev cX5_night : ByteArray := prog_1_method_8_code
def yX5_night : MethodName := ⟨RX5, "night", "()I"⟩
abbrev cX5_settle : ByteArray := prog_1_method_9_code
def yX5_settle : MethodName := ⟨RX5, "settle", "()I"⟩
abbrev cX5_today : ByteArray := prog_1_method_10_code
def yX5_today : MethodName := ⟨RX5, "today", "()I"⟩
abbrev cX5_bookings : ByteArray := prog_1_method_11_code
def yX5_bookings : MethodName := ⟨RX5, "bookings", "()I"⟩
abbrev cX5_free : ByteArray := prog_1_method_12_code
def yX5_free : MethodName := ⟨RX5, "free", "(II)I"⟩
abbrev cX5_taken : ByteArray := prog_1_method_13_code
def yX5_taken : MethodName := ⟨RX5, "taken", "(II)I"⟩
abbrev cX5_takenByBookings : ByteArray := prog_1_method_14_code
def yX5_takenByBookings : MethodName := ⟨RX5, "takenByBookings", "(II)I"⟩
abbrev cX5_extra : ByteArray := prog_1_method_15_code
def yX5_extra : MethodName := ⟨RX5, "extra", "(I)I"⟩
abbrev cX5_clean : ByteArray := prog_1_method_16_code
def yX5_clean : MethodName := ⟨RX5, "clean", "(I)I"⟩
abbrev cX5_away : ByteArray := prog_1_method_17_code
def yX5_away : MethodName := ⟨RX5, "away", "(I)I"⟩
abbrev cX5_sleeps : ByteArray := prog_1_method_18_code
def yX5_sleeps : MethodName := ⟨RX5, "sleeps", "(I)I"⟩
abbrev cX5_points : ByteArray := prog_1_method_19_code
def yX5_points : MethodName := ⟨RX5, "points", "(I)I"⟩
abbrev cX5_owes : ByteArray := prog_1_method_20_code
def yX5_owes : MethodName := ⟨RX5, "owes", "(II)I"⟩
abbrev cX5_purse : ByteArray := prog_1_method_21_code
def yX5_purse : MethodName := ⟨RX5, "purse", "(I)I"⟩
abbrev cX5_checkInn : ByteArray := prog_1_method_22_code
def yX5_checkInn : MethodName := ⟨RX5, "checkInn", "(I)V"⟩
abbrev cX5_checkKind : ByteArray := prog_1_method_23_code
def yX5_checkKind : MethodName := ⟨RX5, "checkKind", "(I)V"⟩
abbrev cX5_checkGuest : ByteArray := prog_1_method_24_code
def yX5_checkGuest : MethodName := ⟨RX5, "checkGuest", "(I)V"⟩
abbrev cX5_checkBooking : ByteArray := prog_1_method_25_code
def yX5_checkBooking : MethodName := ⟨RX5, "checkBooking", "(I)V"⟩
abbrev cX5_checkRange : ByteArray := prog_1_method_26_code
def yX5_checkRange : MethodName := ⟨RX5, "checkRange", "(III)V"⟩
abbrev cX5_extraOf : ByteArray := prog_1_method_27_code
def yX5_extraOf : MethodName := ⟨RX5, "extraOf", "(I)I"⟩
abbrev cX5_takesMore : ByteArray := prog_1_method_28_code
def yX5_takesMore : MethodName := ⟨RX5, "takesMore", "(III)Z"⟩
abbrev cX5_distance : ByteArray := prog_1_method_29_code
def yX5_distance : MethodName := ⟨RX5, "distance", "(II)I"⟩
abbrev cX5_findInn : ByteArray := prog_1_method_30_code
def yX5_findInn : MethodName := ⟨RX5, "findInn", "(II)I"⟩
abbrev cX5_putUp : ByteArray := prog_1_method_31_code
def yX5_putUp : MethodName := ⟨RX5, "putUp", "(II)V"⟩
abbrev cX5_layLinen : ByteArray := prog_1_method_32_code
def yX5_layLinen : MethodName := ⟨RX5, "layLinen", "(I)V"⟩
abbrev cX5_burnEarliest : ByteArray := prog_1_method_33_code
def yX5_burnEarliest : MethodName := ⟨RX5, "burnEarliest", "(III)V"⟩
def RX6 : String := "HostLeagueModel"
def TX6 : u_T := fun k => match k with
  | 0 => ("HostLeagueModel", "rooms", "[I", true)
  | 1 => ("HostLeagueModel", "price", "[I", true)
  | 2 => ("HostLeagueModel", "taken", "[I", true)
  | 3 => ("HostLeagueModel", "clean", "[I", true)
  | 4 => ("HostLeagueModel", "used", "[I", true)
  | 5 => ("HostLeagueModel", "purse", "[I", true)
  | 6 => ("HostLeagueModel", "broken", "Z", false)
  | 7 => ("HostLeagueModel", "borrowed", "I", false)
  | 8 => ("HostLeagueModel", "night", "I", false)
  | 9 => ("HostLeagueModel", "debt", "[I", true)
  | 10 => ("HostLeagueModel", "wash", "[I", true)
  | 11 => ("HostLeagueModel", "missed", "[I", true)
  | 12 => ("HostLeagueModel", "guest", "[I", true)
  | 13 => ("HostLeagueModel", "inn", "[I", true)
  | 14 => ("HostLeagueModel", "kind", "[I", true)
  | 15 => ("HostLeagueModel", "on", "[I", true)
  | 16 => ("HostLeagueModel", "came", "[Z", true)
  | 17 => ("HostLeagueModel", "sleeps", "[I", true)
  | 18 => ("HostLeagueModel", "bookings", "I", false)
  | 19 => ("HostLeagueModel", "earner", "[I", true)
  | 20 => ("HostLeagueModel", "earnedAt", "[I", true)
  | 21 => ("HostLeagueModel", "left", "[I", true)
  | 22 => ("HostLeagueModel", "earned", "I", false)
  | _ => ("HostLeagueModel", "thrown", "I", false)
def tyX6 : Nat → FieldType := fun k => match k with
  | 0 => .array .int
  | 1 => .array .int
  | 2 => .array .int
  | 3 => .array .int
  | 4 => .array .int
  | 5 => .array .int
  | 6 => .boolean
  | 7 => .int
  | 8 => .int
  | 9 => .array .int
  | 10 => .array .int
  | 11 => .array .int
  | 12 => .array .int
  | 13 => .array .int
  | 14 => .array .int
  | 15 => .array .int
  | 16 => .array .boolean
  | 17 => .array .int
  | 18 => .int
  | 19 => .array .int
  | 20 => .array .int
  | 21 => .array .int
  | 22 => .int
  | _ => .int
abbrev wsX60 : List Cond := u_ws RX6 TX6 24
theorem nmX6 : ∀ a, a < 24 → ∀ b, b < 24 → a ≠ b → (TX6 a).2.1 ≠ (TX6 b).2.1 := by decide +kernel
theorem tyX6_ok : ∀ k, k < 24 → parseFieldDescriptor (TX6 k).2.2.1 = some (tyX6 k) := by decide +kernel
abbrev cX6_init : ByteArray := prog_8_method_1_code
def yX6_init : MethodName := ⟨RX6, "<init>", "()V"⟩
abbrev cX6_thrown : ByteArray := prog_8_method_2_code
def yX6_thrown : MethodName := ⟨RX6, "thrown", "()I"⟩
abbrev cX6_in : ByteArray := prog_8_method_3_code
def yX6_in : MethodName := ⟨RX6, "in", "(III)Z"⟩
abbrev cX6_isFine : ByteArray := prog_8_method_4_code
def yX6_isFine : MethodName := ⟨RX6, "isFine", "(I)Z"⟩
abbrev cX6_isInn : ByteArray := prog_8_method_5_code
def yX6_isInn : MethodName := ⟨RX6, "isInn", "(I)Z"⟩
abbrev cX6_isRoom : ByteArray := prog_8_method_6_code
def yX6_isRoom : MethodName := ⟨RX6, "isRoom", "(II)Z"⟩
abbrev cX6_isGuest : ByteArray := prog_8_method_7_code
def yX6_isGuest : MethodName := ⟨RX6, "isGuest", "(I)Z"⟩
abbrev cX6_setRooms : ByteArray := prog_8_method_8_code
def yX6_setRooms : MethodName := ⟨RX6, "setRooms", "(IIII)I"⟩
abbrev cX6_buyLinen : ByteArray := prog_8_method_9_code
def yX6_buyLinen : MethodName := ⟨RX6, "buyLinen", "(II)I"⟩
abbrev cX6_setBroken : ByteArray := prog_8_method_10_code
def yX6_setBroken : MethodName := ⟨RX6, "setBroken", "(Z)Z"⟩
abbrev cX6_extraOf : ByteArray := prog_8_method_11_code
def yX6_extraOf : MethodName := ⟨RX6, "extraOf", "(I)I"⟩
abbrev cX6_book : ByteArray := prog_8_method_12_code
def yX6_book : MethodName := ⟨RX6, "book", "(IIII)I"⟩
abbrev cX6_distance : ByteArray := prog_8_method_13_code
def yX6_distance : MethodName := ⟨RX6, "distance", "(II)I"⟩
abbrev cX6_isFree : ByteArray := prog_8_method_14_code
def yX6_isFree : MethodName := ⟨RX6, "isFree", "(II)Z"⟩
abbrev cX6_richest : ByteArray := prog_8_method_15_code
def yX6_richest : MethodName := ⟨RX6, "richest", "()I"⟩
abbrev cX6_finds : ByteArray := prog_8_method_16_code
def yX6_finds : MethodName := ⟨RX6, "finds", "(II)I"⟩
abbrev cX6_takesLinen : ByteArray := prog_8_method_17_code
def yX6_takesLinen : MethodName := ⟨RX6, "takesLinen", "(I)V"⟩
abbrev cX6_come : ByteArray := prog_8_method_18_code
def yX6_come : MethodName := ⟨RX6, "come", "(I)I"⟩
abbrev cX6_pointsOf : ByteArray := prog_8_method_19_code
def yX6_pointsOf : MethodName := ⟨RX6, "pointsOf", "(I)I"⟩
abbrev cX6_burn : ByteArray := prog_8_method_20_code
def yX6_burn : MethodName := ⟨RX6, "burn", "(III)I"⟩
abbrev cX6_night : ByteArray := prog_8_method_21_code
def yX6_night : MethodName := ⟨RX6, "night", "()I"⟩
abbrev cX6_owed : ByteArray := prog_8_method_22_code
def yX6_owed : MethodName := ⟨RX6, "owed", "(II)I"⟩
abbrev cX6_settle : ByteArray := prog_8_method_23_code
def yX6_settle : MethodName := ⟨RX6, "settle", "()I"⟩
abbrev cX6_today : ByteArray := prog_8_method_24_code
def yX6_today : MethodName := ⟨RX6, "today", "()I"⟩
abbrev cX6_bookings : ByteArray := prog_8_method_25_code
def yX6_bookings : MethodName := ⟨RX6, "bookings", "()I"⟩
abbrev cX6_free : ByteArray := prog_8_method_26_code
def yX6_free : MethodName := ⟨RX6, "free", "(II)I"⟩
abbrev cX6_taken : ByteArray := prog_8_method_27_code
def yX6_taken : MethodName := ⟨RX6, "taken", "(II)I"⟩
abbrev cX6_takenByBookings : ByteArray := prog_8_method_28_code
def yX6_takenByBookings : MethodName := ⟨RX6, "takenByBookings", "(II)I"⟩
abbrev cX6_extra : ByteArray := prog_8_method_29_code
def yX6_extra : MethodName := ⟨RX6, "extra", "(I)I"⟩
abbrev cX6_clean : ByteArray := prog_8_method_30_code
def yX6_clean : MethodName := ⟨RX6, "clean", "(I)I"⟩
abbrev cX6_away : ByteArray := prog_8_method_31_code
def yX6_away : MethodName := ⟨RX6, "away", "(I)I"⟩
abbrev cX6_sleeps : ByteArray := prog_8_method_32_code
def yX6_sleeps : MethodName := ⟨RX6, "sleeps", "(I)I"⟩
abbrev cX6_points : ByteArray := prog_8_method_33_code
def yX6_points : MethodName := ⟨RX6, "points", "(I)I"⟩
abbrev cX6_owes : ByteArray := prog_8_method_34_code
def yX6_owes : MethodName := ⟨RX6, "owes", "(II)I"⟩
abbrev cX6_purse : ByteArray := prog_8_method_35_code
def yX6_purse : MethodName := ⟨RX6, "purse", "(I)I"⟩
def RJ9 : String := "java/lang/Math"
def TJ9 : u_T := fun k => match k with
  | _ => ("", "", "", false)
def tyJ9 : Nat → FieldType := fun k => match k with
  | _ => .int
abbrev wsJ90 : List Cond := u_ws RJ9 TJ9 0
theorem nmJ9 : ∀ a, a < 0 → ∀ b, b < 0 → a ≠ b → (TJ9 a).2.1 ≠ (TJ9 b).2.1 := by decide +kernel
theorem tyJ9_ok : ∀ k, k < 0 → parseFieldDescriptor (TJ9 k).2.2.1 = some (tyJ9 k) := by decide +kernel
abbrev cJ9_abs_0f7a4 : ByteArray := prog_13_method_59_code
def yJ9_abs_0f7a4 : MethodName := ⟨RJ9, "abs", "(I)I"⟩
abbrev cJ9_max_7cf53 : ByteArray := prog_13_method_65_code
def yJ9_max_7cf53 : MethodName := ⟨RJ9, "max", "(II)I"⟩
abbrev cJ9_min_7cf53 : ByteArray := prog_13_method_69_code
def yJ9_min_7cf53 : MethodName := ⟨RJ9, "min", "(II)I"⟩
def RJ0 : String := "java/lang/String"
def TJ0 : u_T := fun k => match k with
  | _ => ("", "", "", false)
def tyJ0 : Nat → FieldType := fun k => match k with
  | _ => .int
abbrev wsJ00 : List Cond := u_ws RJ0 TJ0 0
theorem nmJ0 : ∀ a, a < 0 → ∀ b, b < 0 → a ≠ b → (TJ0 a).2.1 ≠ (TJ0 b).2.1 := by decide +kernel
theorem tyJ0_ok : ∀ k, k < 0 → parseFieldDescriptor (TJ0 k).2.2.1 = some (tyJ0 k) := by decide +kernel
def RL : String := "HostLeagueLaw"
abbrev cL_setRooms : ByteArray := method_3_code
def yL_setRooms : MethodName := ⟨RL, "setRooms", "(LHostLeague;IIII[J)I"⟩
abbrev cL_buyLinen : ByteArray := method_4_code
def yL_buyLinen : MethodName := ⟨RL, "buyLinen", "(LHostLeague;II[J)I"⟩
abbrev cL_book : ByteArray := method_5_code
def yL_book : MethodName := ⟨RL, "book", "(LHostLeague;IIII[J)I"⟩
abbrev cL_come : ByteArray := method_6_code
def yL_come : MethodName := ⟨RL, "come", "(LHostLeague;I[J)I"⟩
abbrev cL_burn : ByteArray := method_7_code
def yL_burn : MethodName := ⟨RL, "burn", "(LHostLeague;III[J)I"⟩
abbrev cL_night : ByteArray := method_8_code
def yL_night : MethodName := ⟨RL, "night", "(LHostLeague;[J)I"⟩
abbrev cL_free : ByteArray := method_9_code
def yL_free : MethodName := ⟨RL, "free", "(LHostLeague;II[J)I"⟩
abbrev cL_taken : ByteArray := method_10_code
def yL_taken : MethodName := ⟨RL, "taken", "(LHostLeague;II[J)I"⟩
abbrev cL_takenByBookings : ByteArray := method_11_code
def yL_takenByBookings : MethodName := ⟨RL, "takenByBookings", "(LHostLeague;II[J)I"⟩
abbrev cL_extra : ByteArray := method_12_code
def yL_extra : MethodName := ⟨RL, "extra", "(LHostLeague;I[J)I"⟩
abbrev cL_clean : ByteArray := method_13_code
def yL_clean : MethodName := ⟨RL, "clean", "(LHostLeague;I[J)I"⟩
abbrev cL_away : ByteArray := method_14_code
def yL_away : MethodName := ⟨RL, "away", "(LHostLeague;I[J)I"⟩
abbrev cL_sleeps : ByteArray := method_15_code
def yL_sleeps : MethodName := ⟨RL, "sleeps", "(LHostLeague;I[J)I"⟩
abbrev cL_points : ByteArray := method_16_code
def yL_points : MethodName := ⟨RL, "points", "(LHostLeague;I[J)I"⟩
abbrev cL_owes : ByteArray := method_17_code
def yL_owes : MethodName := ⟨RL, "owes", "(LHostLeague;II[J)I"⟩
abbrev cL_purse : ByteArray := method_18_code
def yL_purse : MethodName := ⟨RL, "purse", "(LHostLeague;I[J)I"⟩
abbrev cL_law : ByteArray := code
def yL_law : MethodName := ⟨RL, "law", "([I)Z"⟩
def wsX0_init : List Cond := .code yX0_init cX0_init 1 none :: ([.methodLink RX0 3 objectInit, .instanceMethod objectInit, .code objectInit ⟨#[0xb1]⟩ 1 none, .arrayClass .int, .fieldLink RX0 9 "HostLeague$Bookings" "guests" "[I", .fieldLink RX0 15 "HostLeague$Bookings" "inns" "[I", .fieldLink RX0 18 "HostLeague$Bookings" "kinds" "[I", .fieldLink RX0 21 "HostLeague$Bookings" "nights" "[I", .arrayClass .boolean, .fieldLink RX0 24 "HostLeague$Bookings" "came" "[Z", .fieldLink RX0 28 "HostLeague$Bookings" "beds" "[I", .fieldLink RX0 31 "HostLeague$Bookings" "count" "I"] ++ wsX00)
def wsX0_isFull : List Cond := .code yX0_isFull cX0_isFull 1 (some .boolean) :: ([.fieldLink RX0 31 "HostLeague$Bookings" "count" "I"] ++ wsX00)
def wsX0_add : List Cond := .code yX0_add cX0_add 6 (some .int) :: ([.fieldLink RX0 31 "HostLeague$Bookings" "count" "I", .fieldLink RX0 9 "HostLeague$Bookings" "guests" "[I", .fieldLink RX0 15 "HostLeague$Bookings" "inns" "[I", .fieldLink RX0 18 "HostLeague$Bookings" "kinds" "[I", .fieldLink RX0 21 "HostLeague$Bookings" "nights" "[I", .fieldLink RX0 28 "HostLeague$Bookings" "beds" "[I"] ++ wsX00)
def wsX0_arrive : List Cond := .code yX0_arrive cX0_arrive 3 none :: ([.fieldLink RX0 24 "HostLeague$Bookings" "came" "[Z", .fieldLink RX0 28 "HostLeague$Bookings" "beds" "[I"] ++ wsX00)
def wsX0_countFor : List Cond := .code yX0_countFor cX0_countFor 6 (some .int) :: ([.fieldLink RX0 31 "HostLeague$Bookings" "count" "I", .fieldLink RX0 15 "HostLeague$Bookings" "inns" "[I", .fieldLink RX0 18 "HostLeague$Bookings" "kinds" "[I", .fieldLink RX0 21 "HostLeague$Bookings" "nights" "[I"] ++ wsX00)
def wsX0_missedIn : List Cond := .code yX0_missedIn cX0_missedIn 4 (some .int) :: ([.fieldLink RX0 31 "HostLeague$Bookings" "count" "I", .fieldLink RX0 21 "HostLeague$Bookings" "nights" "[I", .fieldLink RX0 24 "HostLeague$Bookings" "came" "[Z"] ++ wsX00)
def wsX0_missedAt : List Cond := .code yX0_missedAt cX0_missedAt 6 (some .int) :: ([.fieldLink RX0 31 "HostLeague$Bookings" "count" "I", .fieldLink RX0 15 "HostLeague$Bookings" "inns" "[I", .fieldLink RX0 21 "HostLeague$Bookings" "nights" "[I", .fieldLink RX0 24 "HostLeague$Bookings" "came" "[Z"] ++ wsX00)
def wsX0_sleepersAt : List Cond := .code yX0_sleepersAt cX0_sleepersAt 6 (some .int) :: ([.fieldLink RX0 31 "HostLeague$Bookings" "count" "I", .fieldLink RX0 28 "HostLeague$Bookings" "beds" "[I", .fieldLink RX0 18 "HostLeague$Bookings" "kinds" "[I", .fieldLink RX0 21 "HostLeague$Bookings" "nights" "[I"] ++ wsX00)
def wsX1_init : List Cond := .code yX1_init cX1_init 1 none :: ([.methodLink RX1 3 objectInit, .instanceMethod objectInit, .code objectInit ⟨#[0xb1]⟩ 1 none, .arrayClass .int, .fieldLink RX1 9 "HostLeague$Debts" "purses" "[I", .fieldLink RX1 15 "HostLeague$Debts" "balances" "[I"] ++ wsX10)
def wsX1_row : List Cond := .code yX1_row cX1_row 2 (some .int) :: ([])
def wsX1_receive : List Cond := .code yX1_receive cX1_receive 3 none :: ([.fieldLink RX1 9 "HostLeague$Debts" "purses" "[I"] ++ wsX10)
def wsX1_owe : List Cond := .code yX1_owe cX1_owe 4 none :: ([.fieldLink RX1 15 "HostLeague$Debts" "balances" "[I", .methodLink RX1 18 yX1_row, .static yX1_row, .initialized RX1, .code yX1_row cX1_row 2 (some .int)] ++ wsX10)
def wsX1_between : List Cond := .code yX1_between cX1_between 3 (some .int) :: ([.fieldLink RX1 15 "HostLeague$Debts" "balances" "[I", .methodLink RX1 22 Lib.Math.max.name, .static Lib.Math.max.name, .initialized "java/lang/Math", .code Lib.Math.max.name Lib.Math.max.code 2 (some .int), .methodLink RX1 18 yX1_row, .static yX1_row, .initialized RX1, .code yX1_row cX1_row 2 (some .int)] ++ wsX10)
def wsX1_pay : List Cond := .code yX1_pay cX1_pay 4 (some .int) :: ([.fieldLink RX1 9 "HostLeague$Debts" "purses" "[I", .methodLink RX1 30 yX1_between, .instanceMethod yX1_between, .selects RX1 yX1_between yX1_between, .initialized RX1, .code yX1_between cX1_between 3 (some .int), .fieldLink RX1 15 "HostLeague$Debts" "balances" "[I", .methodLink RX1 22 Lib.Math.max.name, .static Lib.Math.max.name, .initialized "java/lang/Math", .code Lib.Math.max.name Lib.Math.max.code 2 (some .int), .methodLink RX1 18 yX1_row, .static yX1_row, .code yX1_row cX1_row 2 (some .int), .methodLink RX1 33 yX1_owe, .instanceMethod yX1_owe, .selects RX1 yX1_owe yX1_owe, .code yX1_owe cX1_owe 4 none] ++ wsX10)
def wsX1_payAll : List Cond := .code yX1_payAll cX1_payAll 4 (some .int) :: ([.methodLink RX1 27 yX1_pay, .instanceMethod yX1_pay, .selects RX1 yX1_pay yX1_pay, .initialized RX1, .code yX1_pay cX1_pay 4 (some .int), .fieldLink RX1 9 "HostLeague$Debts" "purses" "[I", .methodLink RX1 30 yX1_between, .instanceMethod yX1_between, .selects RX1 yX1_between yX1_between, .code yX1_between cX1_between 3 (some .int), .fieldLink RX1 15 "HostLeague$Debts" "balances" "[I", .methodLink RX1 22 Lib.Math.max.name, .static Lib.Math.max.name, .initialized "java/lang/Math", .code Lib.Math.max.name Lib.Math.max.code 2 (some .int), .methodLink RX1 18 yX1_row, .static yX1_row, .code yX1_row cX1_row 2 (some .int), .methodLink RX1 33 yX1_owe, .instanceMethod yX1_owe, .selects RX1 yX1_owe yX1_owe, .code yX1_owe cX1_owe 4 none] ++ wsX10)
def wsX2_init : List Cond := .code yX2_init cX2_init 1 none :: ([.methodLink RX2 3 objectInit, .instanceMethod objectInit, .code objectInit ⟨#[0xb1]⟩ 1 none, .arrayClass .int, .fieldLink RX2 9 "HostLeague$Linen" "clean" "[I", .fieldLink RX2 15 "HostLeague$Linen" "used" "[I", .fieldLink RX2 18 "HostLeague$Linen" "brought" "[I", .fieldLink RX2 21 "HostLeague$Linen" "washedOneNight" "[I", .fieldLink RX2 24 "HostLeague$Linen" "due" "[I", .fieldLink RX2 27 "HostLeague$Linen" "broken" "Z", .fieldLink RX2 31 "HostLeague$Linen" "borrowedTonight" "I"] ++ wsX20)
def wsX2_addClean : List Cond := .code yX2_addClean cX2_addClean 3 (some .int) :: ([.fieldLink RX2 9 "HostLeague$Linen" "clean" "[I"] ++ wsX20)
def wsX2_changeBroken : List Cond := .code yX2_changeBroken cX2_changeBroken 3 (some .boolean) :: ([.fieldLink RX2 27 "HostLeague$Linen" "broken" "Z"] ++ wsX20)
def wsX2_awayOf : List Cond := .code yX2_awayOf cX2_awayOf 2 (some .int) :: ([.fieldLink RX2 15 "HostLeague$Linen" "used" "[I", .fieldLink RX2 18 "HostLeague$Linen" "brought" "[I", .fieldLink RX2 21 "HostLeague$Linen" "washedOneNight" "[I", .fieldLink RX2 24 "HostLeague$Linen" "due" "[I"] ++ wsX20)
def wsX2_giverFor : List Cond := .code yX2_giverFor cX2_giverFor 5 (some .int) :: ([.fieldLink RX2 9 "HostLeague$Linen" "clean" "[I"] ++ wsX20)
def wsX2_chargeForBorrowing : List Cond := .code yX2_chargeForBorrowing cX2_chargeForBorrowing 1 (some .int) :: ([.fieldLink RX2 31 "HostLeague$Linen" "borrowedTonight" "I"] ++ wsX20)
def wsX2_take : List Cond := .code yX2_take cX2_take 3 none :: ([.fieldLink RX2 9 "HostLeague$Linen" "clean" "[I", .fieldLink RX2 15 "HostLeague$Linen" "used" "[I", .fieldLink RX2 31 "HostLeague$Linen" "borrowedTonight" "I"] ++ wsX20)
def wsX2_endNight : List Cond := .code yX2_endNight cX2_endNight 2 none :: ([.fieldLink RX2 24 "HostLeague$Linen" "due" "[I", .fieldLink RX2 21 "HostLeague$Linen" "washedOneNight" "[I", .fieldLink RX2 18 "HostLeague$Linen" "brought" "[I", .fieldLink RX2 15 "HostLeague$Linen" "used" "[I", .fieldLink RX2 27 "HostLeague$Linen" "broken" "Z", .fieldLink RX2 9 "HostLeague$Linen" "clean" "[I", .fieldLink RX2 31 "HostLeague$Linen" "borrowedTonight" "I"] ++ wsX20)
def wsX3_init : List Cond := .code yX3_init cX3_init 1 none :: ([.methodLink RX3 3 objectInit, .instanceMethod objectInit, .code objectInit ⟨#[0xb1]⟩ 1 none, .arrayClass .int, .fieldLink RX3 9 "HostLeague$Points" "guests" "[I", .fieldLink RX3 15 "HostLeague$Points" "inns" "[I", .fieldLink RX3 18 "HostLeague$Points" "left" "[I", .fieldLink RX3 21 "HostLeague$Points" "lots" "I"] ++ wsX30)
def wsX3_add : List Cond := .code yX3_add cX3_add 4 none :: ([.fieldLink RX3 21 "HostLeague$Points" "lots" "I", .fieldLink RX3 9 "HostLeague$Points" "guests" "[I", .fieldLink RX3 15 "HostLeague$Points" "inns" "[I", .fieldLink RX3 18 "HostLeague$Points" "left" "[I"] ++ wsX30)
def wsX3_ofGuest : List Cond := .code yX3_ofGuest cX3_ofGuest 4 (some .int) :: ([.fieldLink RX3 21 "HostLeague$Points" "lots" "I", .fieldLink RX3 9 "HostLeague$Points" "guests" "[I", .fieldLink RX3 18 "HostLeague$Points" "left" "[I"] ++ wsX30)
def wsX3_takeFrom : List Cond := .code yX3_takeFrom cX3_takeFrom 5 (some .int) :: ([.fieldLink RX3 9 "HostLeague$Points" "guests" "[I", .fieldLink RX3 18 "HostLeague$Points" "left" "[I", .methodLink RX3 25 Lib.Math.min.name, .static Lib.Math.min.name, .initialized "java/lang/Math", .code Lib.Math.min.name Lib.Math.min.code 2 (some .int)] ++ wsX30)
def wsX4_init : List Cond := .code yX4_init cX4_init 2 none :: ([.methodLink RX4 3 objectInit, .instanceMethod objectInit, .code objectInit ⟨#[0xb1]⟩ 1 none, .arrayClass .int, .fieldLink RX4 9 "HostLeague$Rooms" "counts" "[I", .fieldLink RX4 15 "HostLeague$Rooms" "prices" "[I", .fieldLink RX4 18 "HostLeague$Rooms" "sleepers" "[I"] ++ wsX40)
def wsX4_row : List Cond := .code yX4_row cX4_row 2 (some .int) :: ([])
def wsX4_countOf : List Cond := .code yX4_countOf cX4_countOf 3 (some .int) :: ([.fieldLink RX4 9 "HostLeague$Rooms" "counts" "[I", .methodLink RX4 21 yX4_row, .static yX4_row, .initialized RX4, .code yX4_row cX4_row 2 (some .int)] ++ wsX40)
def wsX4_priceOf : List Cond := .code yX4_priceOf cX4_priceOf 3 (some .int) :: ([.fieldLink RX4 15 "HostLeague$Rooms" "prices" "[I", .methodLink RX4 21 yX4_row, .static yX4_row, .initialized RX4, .code yX4_row cX4_row 2 (some .int)] ++ wsX40)
def wsX4_sleepersOf : List Cond := .code yX4_sleepersOf cX4_sleepersOf 3 (some .int) :: ([.fieldLink RX4 18 "HostLeague$Rooms" "sleepers" "[I", .methodLink RX4 21 yX4_row, .static yX4_row, .initialized RX4, .code yX4_row cX4_row 2 (some .int)] ++ wsX40)
def wsX4_freeOf : List Cond := .code yX4_freeOf cX4_freeOf 3 (some .int) :: ([.methodLink RX4 31 Lib.Math.max.name, .static Lib.Math.max.name, .initialized "java/lang/Math", .code Lib.Math.max.name Lib.Math.max.code 2 (some .int), .methodLink RX4 25 yX4_countOf, .instanceMethod yX4_countOf, .selects RX4 yX4_countOf yX4_countOf, .initialized RX4, .code yX4_countOf cX4_countOf 3 (some .int), .fieldLink RX4 9 "HostLeague$Rooms" "counts" "[I", .methodLink RX4 21 yX4_row, .static yX4_row, .code yX4_row cX4_row 2 (some .int), .methodLink RX4 28 yX4_sleepersOf, .instanceMethod yX4_sleepersOf, .selects RX4 yX4_sleepersOf yX4_sleepersOf, .code yX4_sleepersOf cX4_sleepersOf 3 (some .int), .fieldLink RX4 18 "HostLeague$Rooms" "sleepers" "[I"] ++ wsX40)
def wsX4_change : List Cond := .code yX4_change cX4_change 7 (some .int) :: ([.fieldLink RX4 9 "HostLeague$Rooms" "counts" "[I", .fieldLink RX4 15 "HostLeague$Rooms" "prices" "[I", .methodLink RX4 21 yX4_row, .static yX4_row, .initialized RX4, .code yX4_row cX4_row 2 (some .int)] ++ wsX40)
def wsX4_addSleeper : List Cond := .code yX4_addSleeper cX4_addSleeper 3 none :: ([.fieldLink RX4 18 "HostLeague$Rooms" "sleepers" "[I", .methodLink RX4 21 yX4_row, .static yX4_row, .initialized RX4, .code yX4_row cX4_row 2 (some .int)] ++ wsX40)
def wsX4_endNight : List Cond := .code yX4_endNight cX4_endNight 2 none :: ([.fieldLink RX4 18 "HostLeague$Rooms" "sleepers" "[I"] ++ wsX40)
def wsX5_init_r1 : List Cond := [Cond.methodLink RX5 1 objectInit, Cond.instanceMethod objectInit, Cond.code objectInit ⟨#[0xb1]⟩ 1 none, Cond.classLink RX5 7 RX4, Cond.instantiable RX4 3, Cond.initialized RX4, Cond.fieldLink RX5 10 "HostLeague" "allRooms" "LHostLeague$Rooms;", Cond.classLink RX5 16 RX2, Cond.instantiable RX2 7, Cond.initialized RX2, Cond.fieldLink RX5 19 "HostLeague" "linen" "LHostLeague$Linen;", Cond.classLink RX5 23 RX0, Cond.instantiable RX0 7, Cond.initialized RX0, Cond.fieldLink RX5 26 "HostLeague" "booked" "LHostLeague$Bookings;", Cond.classLink RX5 30 RX3, Cond.instantiable RX3 4, Cond.initialized RX3, Cond.fieldLink RX5 33 "HostLeague" "earned" "LHostLeague$Points;", Cond.classLink RX5 37 RX1, Cond.instantiable RX1 2, Cond.initialized RX1, Cond.fieldLink RX5 40 "HostLeague" "debts" "LHostLeague$Debts;", Cond.fieldLink RX5 44 "HostLeague" "tonight" "I"]
def wsX5_init_r2 : List Cond := [Cond.methodLink RX5 9 yX4_init, Cond.instanceMethod yX4_init, Cond.code yX4_init cX4_init 2 none, Cond.methodLink RX4 3 objectInit, Cond.arrayClass .int, Cond.fieldLink RX4 9 "HostLeague$Rooms" "counts" "[I", Cond.fieldLink RX4 15 "HostLeague$Rooms" "prices" "[I", Cond.fieldLink RX4 18 "HostLeague$Rooms" "sleepers" "[I", Cond.methodLink RX5 18 yX2_init, Cond.instanceMethod yX2_init, Cond.code yX2_init cX2_init 1 none, Cond.methodLink RX2 3 objectInit, Cond.fieldLink RX2 9 "HostLeague$Linen" "clean" "[I", Cond.fieldLink RX2 15 "HostLeague$Linen" "used" "[I", Cond.fieldLink RX2 18 "HostLeague$Linen" "brought" "[I", Cond.fieldLink RX2 21 "HostLeague$Linen" "washedOneNight" "[I", Cond.fieldLink RX2 24 "HostLeague$Linen" "due" "[I", Cond.fieldLink RX2 27 "HostLeague$Linen" "broken" "Z", Cond.fieldLink RX2 31 "HostLeague$Linen" "borrowedTonight" "I", Cond.methodLink RX5 25 yX0_init, Cond.instanceMethod yX0_init, Cond.code yX0_init cX0_init 1 none, Cond.methodLink RX0 3 objectInit, Cond.fieldLink RX0 9 "HostLeague$Bookings" "guests" "[I"]
def wsX5_init_r3 : List Cond := [Cond.fieldLink RX0 15 "HostLeague$Bookings" "inns" "[I", Cond.fieldLink RX0 18 "HostLeague$Bookings" "kinds" "[I", Cond.fieldLink RX0 21 "HostLeague$Bookings" "nights" "[I", Cond.arrayClass .boolean, Cond.fieldLink RX0 24 "HostLeague$Bookings" "came" "[Z", Cond.fieldLink RX0 28 "HostLeague$Bookings" "beds" "[I", Cond.fieldLink RX0 31 "HostLeague$Bookings" "count" "I", Cond.methodLink RX5 32 yX3_init, Cond.instanceMethod yX3_init, Cond.code yX3_init cX3_init 1 none, Cond.methodLink RX3 3 objectInit, Cond.fieldLink RX3 9 "HostLeague$Points" "guests" "[I", Cond.fieldLink RX3 15 "HostLeague$Points" "inns" "[I", Cond.fieldLink RX3 18 "HostLeague$Points" "left" "[I", Cond.fieldLink RX3 21 "HostLeague$Points" "lots" "I", Cond.methodLink RX5 39 yX1_init, Cond.instanceMethod yX1_init, Cond.code yX1_init cX1_init 1 none, Cond.methodLink RX1 3 objectInit, Cond.fieldLink RX1 9 "HostLeague$Debts" "purses" "[I", Cond.fieldLink RX1 15 "HostLeague$Debts" "balances" "[I"]
def wsX5_init : List Cond := .code yX5_init cX5_init 1 none :: ((wsX5_init_r1 ++ (wsX5_init_r2 ++ wsX5_init_r3)) ++ wsX40 ++ wsX50 ++ wsX20 ++ wsX00 ++ wsX30 ++ wsX10)
def wsX5_checkInn : List Cond := .code yX5_checkInn cX5_checkInn 1 none :: ([.classLink RX5 174 "java/lang/IndexOutOfBoundsException", .initialized "java/lang/IndexOutOfBoundsException"] ++ (vx_atS RX5 178 "java/lang/IndexOutOfBoundsException" ["java/lang/RuntimeException", "java/lang/Exception"]).filter goodWord)
def wsX5_checkKind : List Cond := .code yX5_checkKind cX5_checkKind 1 none :: ([.classLink RX5 174 "java/lang/IndexOutOfBoundsException", .initialized "java/lang/IndexOutOfBoundsException"] ++ (vx_atS RX5 178 "java/lang/IndexOutOfBoundsException" ["java/lang/RuntimeException", "java/lang/Exception"]).filter goodWord)
def wsX5_checkRange : List Cond := .code yX5_checkRange cX5_checkRange 3 none :: ([.classLink RX5 185 "java/lang/IllegalArgumentException", .initialized "java/lang/IllegalArgumentException"] ++ (vx_atS RX5 189 "java/lang/IllegalArgumentException" ["java/lang/RuntimeException", "java/lang/Exception"]).filter goodWord)
def wsX5_setRooms_r1 : List Cond := [Cond.fieldLink RX5 10 "HostLeague" "allRooms" "LHostLeague$Rooms;", Cond.methodLink RX5 48 yX5_checkInn, Cond.static yX5_checkInn, Cond.initialized RX5, Cond.code yX5_checkInn cX5_checkInn 1 none, Cond.classLink RX5 174 "java/lang/IndexOutOfBoundsException", Cond.initialized "java/lang/IndexOutOfBoundsException", Cond.methodLink RX5 52 yX5_checkKind, Cond.static yX5_checkKind, Cond.code yX5_checkKind cX5_checkKind 1 none, Cond.methodLink RX5 55 yX5_checkRange, Cond.static yX5_checkRange, Cond.code yX5_checkRange cX5_checkRange 3 none, Cond.classLink RX5 185 "java/lang/IllegalArgumentException", Cond.initialized "java/lang/IllegalArgumentException", Cond.methodLink RX5 59 yX4_change, Cond.instanceMethod yX4_change, Cond.selects RX4 yX4_change yX4_change, Cond.initialized RX4, Cond.code yX4_change cX4_change 7 (some .int), Cond.fieldLink RX4 9 "HostLeague$Rooms" "counts" "[I", Cond.fieldLink RX4 15 "HostLeague$Rooms" "prices" "[I", Cond.methodLink RX4 21 yX4_row, Cond.static yX4_row]
def wsX5_setRooms_r2 : List Cond := [Cond.code yX4_row cX4_row 2 (some .int)]
def wsX5_setRooms : List Cond := .code yX5_setRooms cX5_setRooms 5 (some .int) :: ((wsX5_setRooms_r1 ++ wsX5_setRooms_r2) ++ wsX50 ++ wsX40 ++ (vx_atS RX5 178 "java/lang/IndexOutOfBoundsException" ["java/lang/RuntimeException", "java/lang/Exception"]).filter goodWord ++ (vx_atS RX5 189 "java/lang/IllegalArgumentException" ["java/lang/RuntimeException", "java/lang/Exception"]).filter goodWord)
def wsX5_buyLinen : List Cond := .code yX5_buyLinen cX5_buyLinen 3 (some .int) :: ([.fieldLink RX5 19 "HostLeague" "linen" "LHostLeague$Linen;", .methodLink RX5 48 yX5_checkInn, .static yX5_checkInn, .initialized RX5, .code yX5_checkInn cX5_checkInn 1 none, .classLink RX5 174 "java/lang/IndexOutOfBoundsException", .initialized "java/lang/IndexOutOfBoundsException", .methodLink RX5 55 yX5_checkRange, .static yX5_checkRange, .code yX5_checkRange cX5_checkRange 3 none, .classLink RX5 185 "java/lang/IllegalArgumentException", .initialized "java/lang/IllegalArgumentException", .methodLink RX5 63 yX2_addClean, .instanceMethod yX2_addClean, .selects RX2 yX2_addClean yX2_addClean, .initialized RX2, .code yX2_addClean cX2_addClean 3 (some .int), .fieldLink RX2 9 "HostLeague$Linen" "clean" "[I"] ++ wsX50 ++ wsX20 ++ (vx_atS RX5 178 "java/lang/IndexOutOfBoundsException" ["java/lang/RuntimeException", "java/lang/Exception"]).filter goodWord ++ (vx_atS RX5 189 "java/lang/IllegalArgumentException" ["java/lang/RuntimeException", "java/lang/Exception"]).filter goodWord)
def wsX5_setBroken : List Cond := .code yX5_setBroken cX5_setBroken 2 (some .boolean) :: ([.fieldLink RX5 19 "HostLeague" "linen" "LHostLeague$Linen;", .methodLink RX5 67 yX2_changeBroken, .instanceMethod yX2_changeBroken, .selects RX2 yX2_changeBroken yX2_changeBroken, .initialized RX2, .code yX2_changeBroken cX2_changeBroken 3 (some .boolean), .fieldLink RX2 27 "HostLeague$Linen" "broken" "Z"] ++ wsX50 ++ wsX20)
def wsX5_checkGuest : List Cond := .code yX5_checkGuest cX5_checkGuest 1 none :: ([.classLink RX5 174 "java/lang/IndexOutOfBoundsException", .initialized "java/lang/IndexOutOfBoundsException"] ++ (vx_atS RX5 178 "java/lang/IndexOutOfBoundsException" ["java/lang/RuntimeException", "java/lang/Exception"]).filter goodWord)
def wsX5_extraOf : List Cond := .code yX5_extraOf cX5_extraOf 2 (some .int) :: ([.fieldLink RX5 26 "HostLeague" "booked" "LHostLeague$Bookings;", .fieldLink RX5 44 "HostLeague" "tonight" "I", .methodLink RX5 190 yX0_missedAt, .instanceMethod yX0_missedAt, .selects RX0 yX0_missedAt yX0_missedAt, .initialized RX0, .code yX0_missedAt cX0_missedAt 6 (some .int), .fieldLink RX0 31 "HostLeague$Bookings" "count" "I", .fieldLink RX0 15 "HostLeague$Bookings" "inns" "[I", .fieldLink RX0 21 "HostLeague$Bookings" "nights" "[I", .fieldLink RX0 24 "HostLeague$Bookings" "came" "[Z"] ++ wsX50 ++ wsX00)
def wsX5_takesMore_r1 : List Cond := [Cond.fieldLink RX5 26 "HostLeague" "booked" "LHostLeague$Bookings;", Cond.fieldLink RX5 10 "HostLeague" "allRooms" "LHostLeague$Rooms;", Cond.methodLink RX5 193 yX0_countFor, Cond.instanceMethod yX0_countFor, Cond.selects RX0 yX0_countFor yX0_countFor, Cond.initialized RX0, Cond.code yX0_countFor cX0_countFor 6 (some .int), Cond.fieldLink RX0 31 "HostLeague$Bookings" "count" "I", Cond.fieldLink RX0 15 "HostLeague$Bookings" "inns" "[I", Cond.fieldLink RX0 18 "HostLeague$Bookings" "kinds" "[I", Cond.fieldLink RX0 21 "HostLeague$Bookings" "nights" "[I", Cond.methodLink RX5 196 yX4_countOf, Cond.instanceMethod yX4_countOf, Cond.selects RX4 yX4_countOf yX4_countOf, Cond.initialized RX4, Cond.code yX4_countOf cX4_countOf 3 (some .int), Cond.fieldLink RX4 9 "HostLeague$Rooms" "counts" "[I", Cond.methodLink RX4 21 yX4_row, Cond.static yX4_row, Cond.code yX4_row cX4_row 2 (some .int), Cond.methodLink RX5 156 yX5_extraOf, Cond.instanceMethod yX5_extraOf, Cond.selects RX5 yX5_extraOf yX5_extraOf, Cond.initialized RX5]
def wsX5_takesMore_r2 : List Cond := [Cond.code yX5_extraOf cX5_extraOf 2 (some .int), Cond.fieldLink RX5 44 "HostLeague" "tonight" "I", Cond.methodLink RX5 190 yX0_missedAt, Cond.instanceMethod yX0_missedAt, Cond.selects RX0 yX0_missedAt yX0_missedAt, Cond.code yX0_missedAt cX0_missedAt 6 (some .int), Cond.fieldLink RX0 24 "HostLeague$Bookings" "came" "[Z"]
def wsX5_takesMore : List Cond := .code yX5_takesMore cX5_takesMore 4 (some .boolean) :: ((wsX5_takesMore_r1 ++ wsX5_takesMore_r2) ++ wsX50 ++ wsX00 ++ wsX40)
def wsX5_book_r1 : List Cond := [Cond.classLink RX5 82 "java/lang/IllegalStateException", Cond.initialized "java/lang/IllegalStateException", Cond.fieldLink RX5 44 "HostLeague" "tonight" "I", Cond.fieldLink RX5 26 "HostLeague" "booked" "LHostLeague$Bookings;", Cond.methodLink RX5 71 yX5_checkGuest, Cond.static yX5_checkGuest, Cond.initialized RX5, Cond.code yX5_checkGuest cX5_checkGuest 1 none, Cond.classLink RX5 174 "java/lang/IndexOutOfBoundsException", Cond.initialized "java/lang/IndexOutOfBoundsException", Cond.methodLink RX5 48 yX5_checkInn, Cond.static yX5_checkInn, Cond.code yX5_checkInn cX5_checkInn 1 none, Cond.methodLink RX5 52 yX5_checkKind, Cond.static yX5_checkKind, Cond.code yX5_checkKind cX5_checkKind 1 none, Cond.methodLink RX5 55 yX5_checkRange, Cond.static yX5_checkRange, Cond.code yX5_checkRange cX5_checkRange 3 none, Cond.classLink RX5 185 "java/lang/IllegalArgumentException", Cond.initialized "java/lang/IllegalArgumentException", Cond.methodLink RX5 74 yX0_isFull, Cond.instanceMethod yX0_isFull, Cond.selects RX0 yX0_isFull yX0_isFull]
def wsX5_book_r2 : List Cond := [Cond.initialized RX0, Cond.code yX0_isFull cX0_isFull 1 (some .boolean), Cond.fieldLink RX0 31 "HostLeague$Bookings" "count" "I", Cond.methodLink RX5 78 yX5_takesMore, Cond.instanceMethod yX5_takesMore, Cond.selects RX5 yX5_takesMore yX5_takesMore, Cond.code yX5_takesMore cX5_takesMore 4 (some .boolean), Cond.fieldLink RX5 10 "HostLeague" "allRooms" "LHostLeague$Rooms;", Cond.methodLink RX5 193 yX0_countFor, Cond.instanceMethod yX0_countFor, Cond.selects RX0 yX0_countFor yX0_countFor, Cond.code yX0_countFor cX0_countFor 6 (some .int), Cond.fieldLink RX0 15 "HostLeague$Bookings" "inns" "[I", Cond.fieldLink RX0 18 "HostLeague$Bookings" "kinds" "[I", Cond.fieldLink RX0 21 "HostLeague$Bookings" "nights" "[I", Cond.methodLink RX5 196 yX4_countOf, Cond.instanceMethod yX4_countOf, Cond.selects RX4 yX4_countOf yX4_countOf, Cond.initialized RX4, Cond.code yX4_countOf cX4_countOf 3 (some .int), Cond.fieldLink RX4 9 "HostLeague$Rooms" "counts" "[I", Cond.methodLink RX4 21 yX4_row, Cond.static yX4_row, Cond.code yX4_row cX4_row 2 (some .int)]
def wsX5_book_r3 : List Cond := [Cond.methodLink RX5 156 yX5_extraOf, Cond.instanceMethod yX5_extraOf, Cond.selects RX5 yX5_extraOf yX5_extraOf, Cond.code yX5_extraOf cX5_extraOf 2 (some .int), Cond.methodLink RX5 190 yX0_missedAt, Cond.instanceMethod yX0_missedAt, Cond.selects RX0 yX0_missedAt yX0_missedAt, Cond.code yX0_missedAt cX0_missedAt 6 (some .int), Cond.fieldLink RX0 24 "HostLeague$Bookings" "came" "[Z", Cond.methodLink RX5 89 yX0_add, Cond.instanceMethod yX0_add, Cond.selects RX0 yX0_add yX0_add, Cond.code yX0_add cX0_add 6 (some .int), Cond.fieldLink RX0 9 "HostLeague$Bookings" "guests" "[I", Cond.fieldLink RX0 28 "HostLeague$Bookings" "beds" "[I"]
def wsX5_book : List Cond := .code yX5_book cX5_book 5 (some .int) :: ((wsX5_book_r1 ++ (wsX5_book_r2 ++ wsX5_book_r3)) ++ wsX50 ++ wsX00 ++ wsX40 ++ (vx_atS RX5 86 "java/lang/IllegalStateException" ["java/lang/RuntimeException", "java/lang/Exception"]).filter goodWord ++ (vx_atS RX5 178 "java/lang/IndexOutOfBoundsException" ["java/lang/RuntimeException", "java/lang/Exception"]).filter goodWord ++ (vx_atS RX5 189 "java/lang/IllegalArgumentException" ["java/lang/RuntimeException", "java/lang/Exception"]).filter goodWord)
def wsX5_checkBooking : List Cond := .code yX5_checkBooking cX5_checkBooking 2 none :: ([.classLink RX5 174 "java/lang/IndexOutOfBoundsException", .initialized "java/lang/IndexOutOfBoundsException", .fieldLink RX5 26 "HostLeague" "booked" "LHostLeague$Bookings;", .fieldLink RX5 143 "HostLeague$Bookings" "count" "I"] ++ wsX50 ++ wsX00 ++ (vx_atS RX5 178 "java/lang/IndexOutOfBoundsException" ["java/lang/RuntimeException", "java/lang/Exception"]).filter goodWord)
def wsX5_distance : List Cond := .code yX5_distance cX5_distance 3 (some .int) :: ([.methodLink RX5 199 Lib.Math.abs.name, .static Lib.Math.abs.name, .initialized "java/lang/Math", .code Lib.Math.abs.name Lib.Math.abs.code 1 (some .int), .methodLink RX5 204 Lib.Math.min.name, .static Lib.Math.min.name, .code Lib.Math.min.name Lib.Math.min.code 2 (some .int)])
def wsX5_findInn_r1 : List Cond := [Cond.fieldLink RX5 10 "HostLeague" "allRooms" "LHostLeague$Rooms;", Cond.fieldLink RX5 19 "HostLeague" "linen" "LHostLeague$Linen;", Cond.methodLink RX5 207 yX5_distance, Cond.static yX5_distance, Cond.initialized RX5, Cond.code yX5_distance cX5_distance 3 (some .int), Cond.methodLink RX5 199 Lib.Math.abs.name, Cond.static Lib.Math.abs.name, Cond.initialized "java/lang/Math", Cond.code Lib.Math.abs.name Lib.Math.abs.code 1 (some .int), Cond.methodLink RX5 204 Lib.Math.min.name, Cond.static Lib.Math.min.name, Cond.code Lib.Math.min.name Lib.Math.min.code 2 (some .int), Cond.methodLink RX5 146 yX4_freeOf, Cond.instanceMethod yX4_freeOf, Cond.selects RX4 yX4_freeOf yX4_freeOf, Cond.initialized RX4, Cond.code yX4_freeOf cX4_freeOf 3 (some .int), Cond.methodLink RX4 31 Lib.Math.max.name, Cond.static Lib.Math.max.name, Cond.code Lib.Math.max.name Lib.Math.max.code 2 (some .int), Cond.methodLink RX4 25 yX4_countOf, Cond.instanceMethod yX4_countOf, Cond.selects RX4 yX4_countOf yX4_countOf]
def wsX5_findInn_r2 : List Cond := [Cond.code yX4_countOf cX4_countOf 3 (some .int), Cond.fieldLink RX4 9 "HostLeague$Rooms" "counts" "[I", Cond.methodLink RX4 21 yX4_row, Cond.static yX4_row, Cond.code yX4_row cX4_row 2 (some .int), Cond.methodLink RX4 28 yX4_sleepersOf, Cond.instanceMethod yX4_sleepersOf, Cond.selects RX4 yX4_sleepersOf yX4_sleepersOf, Cond.code yX4_sleepersOf cX4_sleepersOf 3 (some .int), Cond.fieldLink RX4 18 "HostLeague$Rooms" "sleepers" "[I", Cond.methodLink RX5 210 yX2_giverFor, Cond.instanceMethod yX2_giverFor, Cond.selects RX2 yX2_giverFor yX2_giverFor, Cond.initialized RX2, Cond.code yX2_giverFor cX2_giverFor 5 (some .int), Cond.fieldLink RX2 9 "HostLeague$Linen" "clean" "[I"]
def wsX5_findInn : List Cond := .code yX5_findInn cX5_findInn 5 (some .int) :: ((wsX5_findInn_r1 ++ wsX5_findInn_r2) ++ wsX50 ++ wsX40 ++ wsX20)
def wsX5_layLinen_r1 : List Cond := [Cond.fieldLink RX5 19 "HostLeague" "linen" "LHostLeague$Linen;", Cond.fieldLink RX5 40 "HostLeague" "debts" "LHostLeague$Debts;", Cond.methodLink RX5 210 yX2_giverFor, Cond.instanceMethod yX2_giverFor, Cond.selects RX2 yX2_giverFor yX2_giverFor, Cond.initialized RX2, Cond.code yX2_giverFor cX2_giverFor 5 (some .int), Cond.fieldLink RX2 9 "HostLeague$Linen" "clean" "[I", Cond.methodLink RX5 233 yX2_chargeForBorrowing, Cond.instanceMethod yX2_chargeForBorrowing, Cond.selects RX2 yX2_chargeForBorrowing yX2_chargeForBorrowing, Cond.code yX2_chargeForBorrowing cX2_chargeForBorrowing 1 (some .int), Cond.fieldLink RX2 31 "HostLeague$Linen" "borrowedTonight" "I", Cond.methodLink RX5 219 yX1_owe, Cond.instanceMethod yX1_owe, Cond.selects RX1 yX1_owe yX1_owe, Cond.initialized RX1, Cond.code yX1_owe cX1_owe 4 none, Cond.fieldLink RX1 15 "HostLeague$Debts" "balances" "[I", Cond.methodLink RX1 18 yX1_row, Cond.static yX1_row, Cond.code yX1_row cX1_row 2 (some .int), Cond.methodLink RX5 236 yX2_take, Cond.instanceMethod yX2_take]
def wsX5_layLinen_r2 : List Cond := [Cond.selects RX2 yX2_take yX2_take, Cond.code yX2_take cX2_take 3 none, Cond.fieldLink RX2 15 "HostLeague$Linen" "used" "[I"]
def wsX5_layLinen : List Cond := .code yX5_layLinen cX5_layLinen 3 none :: ((wsX5_layLinen_r1 ++ wsX5_layLinen_r2) ++ wsX50 ++ wsX20 ++ wsX10)
def wsX5_putUp_r1 : List Cond := [Cond.fieldLink RX5 26 "HostLeague" "booked" "LHostLeague$Bookings;", Cond.fieldLink RX5 105 "HostLeague$Bookings" "inns" "[I", Cond.fieldLink RX5 108 "HostLeague$Bookings" "kinds" "[I", Cond.fieldLink RX5 10 "HostLeague" "allRooms" "LHostLeague$Rooms;", Cond.fieldLink RX5 40 "HostLeague" "debts" "LHostLeague$Debts;", Cond.fieldLink RX5 33 "HostLeague" "earned" "LHostLeague$Points;", Cond.fieldLink RX5 228 "HostLeague$Bookings" "guests" "[I", Cond.methodLink RX5 213 yX4_priceOf, Cond.instanceMethod yX4_priceOf, Cond.selects RX4 yX4_priceOf yX4_priceOf, Cond.initialized RX4, Cond.code yX4_priceOf cX4_priceOf 3 (some .int), Cond.fieldLink RX4 15 "HostLeague$Rooms" "prices" "[I", Cond.methodLink RX4 21 yX4_row, Cond.static yX4_row, Cond.code yX4_row cX4_row 2 (some .int), Cond.methodLink RX5 216 yX1_receive, Cond.instanceMethod yX1_receive, Cond.selects RX1 yX1_receive yX1_receive, Cond.initialized RX1, Cond.code yX1_receive cX1_receive 3 none, Cond.fieldLink RX1 9 "HostLeague$Debts" "purses" "[I", Cond.methodLink RX5 219 yX1_owe, Cond.instanceMethod yX1_owe]
def wsX5_putUp_r2 : List Cond := [Cond.selects RX1 yX1_owe yX1_owe, Cond.code yX1_owe cX1_owe 4 none, Cond.fieldLink RX1 15 "HostLeague$Debts" "balances" "[I", Cond.methodLink RX1 18 yX1_row, Cond.static yX1_row, Cond.code yX1_row cX1_row 2 (some .int), Cond.methodLink RX5 222 yX5_layLinen, Cond.instanceMethod yX5_layLinen, Cond.selects RX5 yX5_layLinen yX5_layLinen, Cond.initialized RX5, Cond.code yX5_layLinen cX5_layLinen 3 none, Cond.fieldLink RX5 19 "HostLeague" "linen" "LHostLeague$Linen;", Cond.methodLink RX5 210 yX2_giverFor, Cond.instanceMethod yX2_giverFor, Cond.selects RX2 yX2_giverFor yX2_giverFor, Cond.initialized RX2, Cond.code yX2_giverFor cX2_giverFor 5 (some .int), Cond.fieldLink RX2 9 "HostLeague$Linen" "clean" "[I", Cond.methodLink RX5 233 yX2_chargeForBorrowing, Cond.instanceMethod yX2_chargeForBorrowing, Cond.selects RX2 yX2_chargeForBorrowing yX2_chargeForBorrowing, Cond.code yX2_chargeForBorrowing cX2_chargeForBorrowing 1 (some .int), Cond.fieldLink RX2 31 "HostLeague$Linen" "borrowedTonight" "I", Cond.methodLink RX5 236 yX2_take]
def wsX5_putUp_r3 : List Cond := [Cond.instanceMethod yX2_take, Cond.selects RX2 yX2_take yX2_take, Cond.code yX2_take cX2_take 3 none, Cond.fieldLink RX2 15 "HostLeague$Linen" "used" "[I", Cond.methodLink RX5 225 yX4_addSleeper, Cond.instanceMethod yX4_addSleeper, Cond.selects RX4 yX4_addSleeper yX4_addSleeper, Cond.code yX4_addSleeper cX4_addSleeper 3 none, Cond.fieldLink RX4 18 "HostLeague$Rooms" "sleepers" "[I", Cond.methodLink RX5 231 yX3_add, Cond.instanceMethod yX3_add, Cond.selects RX3 yX3_add yX3_add, Cond.initialized RX3, Cond.code yX3_add cX3_add 4 none, Cond.fieldLink RX3 21 "HostLeague$Points" "lots" "I", Cond.fieldLink RX3 9 "HostLeague$Points" "guests" "[I", Cond.fieldLink RX3 15 "HostLeague$Points" "inns" "[I", Cond.fieldLink RX3 18 "HostLeague$Points" "left" "[I"]
def wsX5_putUp : List Cond := .code yX5_putUp cX5_putUp 6 none :: ((wsX5_putUp_r1 ++ (wsX5_putUp_r2 ++ wsX5_putUp_r3)) ++ wsX50 ++ wsX00 ++ wsX40 ++ wsX10 ++ wsX20 ++ wsX30)
def wsX5_come_r1 : List Cond := [Cond.classLink RX5 82 "java/lang/IllegalStateException", Cond.initialized "java/lang/IllegalStateException", Cond.fieldLink RX5 26 "HostLeague" "booked" "LHostLeague$Bookings;", Cond.fieldLink RX5 95 "HostLeague$Bookings" "nights" "[I", Cond.fieldLink RX5 44 "HostLeague" "tonight" "I", Cond.fieldLink RX5 99 "HostLeague$Bookings" "came" "[Z", Cond.fieldLink RX5 105 "HostLeague$Bookings" "inns" "[I", Cond.fieldLink RX5 108 "HostLeague$Bookings" "kinds" "[I", Cond.methodLink RX5 92 yX5_checkBooking, Cond.instanceMethod yX5_checkBooking, Cond.selects RX5 yX5_checkBooking yX5_checkBooking, Cond.initialized RX5, Cond.code yX5_checkBooking cX5_checkBooking 2 none, Cond.classLink RX5 174 "java/lang/IndexOutOfBoundsException", Cond.initialized "java/lang/IndexOutOfBoundsException", Cond.fieldLink RX5 143 "HostLeague$Bookings" "count" "I", Cond.methodLink RX5 111 yX5_findInn, Cond.instanceMethod yX5_findInn, Cond.selects RX5 yX5_findInn yX5_findInn, Cond.code yX5_findInn cX5_findInn 5 (some .int), Cond.fieldLink RX5 10 "HostLeague" "allRooms" "LHostLeague$Rooms;", Cond.fieldLink RX5 19 "HostLeague" "linen" "LHostLeague$Linen;", Cond.methodLink RX5 207 yX5_distance, Cond.static yX5_distance]
def wsX5_come_r2 : List Cond := [Cond.code yX5_distance cX5_distance 3 (some .int), Cond.methodLink RX5 199 Lib.Math.abs.name, Cond.static Lib.Math.abs.name, Cond.initialized "java/lang/Math", Cond.code Lib.Math.abs.name Lib.Math.abs.code 1 (some .int), Cond.methodLink RX5 204 Lib.Math.min.name, Cond.static Lib.Math.min.name, Cond.code Lib.Math.min.name Lib.Math.min.code 2 (some .int), Cond.methodLink RX5 146 yX4_freeOf, Cond.instanceMethod yX4_freeOf, Cond.selects RX4 yX4_freeOf yX4_freeOf, Cond.initialized RX4, Cond.code yX4_freeOf cX4_freeOf 3 (some .int), Cond.methodLink RX4 31 Lib.Math.max.name, Cond.static Lib.Math.max.name, Cond.code Lib.Math.max.name Lib.Math.max.code 2 (some .int), Cond.methodLink RX4 25 yX4_countOf, Cond.instanceMethod yX4_countOf, Cond.selects RX4 yX4_countOf yX4_countOf, Cond.code yX4_countOf cX4_countOf 3 (some .int), Cond.fieldLink RX4 9 "HostLeague$Rooms" "counts" "[I", Cond.methodLink RX4 21 yX4_row, Cond.static yX4_row, Cond.code yX4_row cX4_row 2 (some .int)]
def wsX5_come_r3 : List Cond := [Cond.methodLink RX4 28 yX4_sleepersOf, Cond.instanceMethod yX4_sleepersOf, Cond.selects RX4 yX4_sleepersOf yX4_sleepersOf, Cond.code yX4_sleepersOf cX4_sleepersOf 3 (some .int), Cond.fieldLink RX4 18 "HostLeague$Rooms" "sleepers" "[I", Cond.methodLink RX5 210 yX2_giverFor, Cond.instanceMethod yX2_giverFor, Cond.selects RX2 yX2_giverFor yX2_giverFor, Cond.initialized RX2, Cond.code yX2_giverFor cX2_giverFor 5 (some .int), Cond.fieldLink RX2 9 "HostLeague$Linen" "clean" "[I", Cond.methodLink RX5 114 yX0_arrive, Cond.instanceMethod yX0_arrive, Cond.selects RX0 yX0_arrive yX0_arrive, Cond.initialized RX0, Cond.code yX0_arrive cX0_arrive 3 none, Cond.fieldLink RX0 24 "HostLeague$Bookings" "came" "[Z", Cond.fieldLink RX0 28 "HostLeague$Bookings" "beds" "[I", Cond.methodLink RX5 118 yX5_putUp, Cond.instanceMethod yX5_putUp, Cond.selects RX5 yX5_putUp yX5_putUp, Cond.code yX5_putUp cX5_putUp 6 none, Cond.fieldLink RX5 40 "HostLeague" "debts" "LHostLeague$Debts;", Cond.fieldLink RX5 33 "HostLeague" "earned" "LHostLeague$Points;"]
def wsX5_come_r4 : List Cond := [Cond.fieldLink RX5 228 "HostLeague$Bookings" "guests" "[I", Cond.methodLink RX5 213 yX4_priceOf, Cond.instanceMethod yX4_priceOf, Cond.selects RX4 yX4_priceOf yX4_priceOf, Cond.code yX4_priceOf cX4_priceOf 3 (some .int), Cond.fieldLink RX4 15 "HostLeague$Rooms" "prices" "[I", Cond.methodLink RX5 216 yX1_receive, Cond.instanceMethod yX1_receive, Cond.selects RX1 yX1_receive yX1_receive, Cond.initialized RX1, Cond.code yX1_receive cX1_receive 3 none, Cond.fieldLink RX1 9 "HostLeague$Debts" "purses" "[I", Cond.methodLink RX5 219 yX1_owe, Cond.instanceMethod yX1_owe, Cond.selects RX1 yX1_owe yX1_owe, Cond.code yX1_owe cX1_owe 4 none, Cond.fieldLink RX1 15 "HostLeague$Debts" "balances" "[I", Cond.methodLink RX1 18 yX1_row, Cond.static yX1_row, Cond.code yX1_row cX1_row 2 (some .int), Cond.methodLink RX5 222 yX5_layLinen, Cond.instanceMethod yX5_layLinen, Cond.selects RX5 yX5_layLinen yX5_layLinen, Cond.code yX5_layLinen cX5_layLinen 3 none]
def wsX5_come_r5 : List Cond := [Cond.methodLink RX5 233 yX2_chargeForBorrowing, Cond.instanceMethod yX2_chargeForBorrowing, Cond.selects RX2 yX2_chargeForBorrowing yX2_chargeForBorrowing, Cond.code yX2_chargeForBorrowing cX2_chargeForBorrowing 1 (some .int), Cond.fieldLink RX2 31 "HostLeague$Linen" "borrowedTonight" "I", Cond.methodLink RX5 236 yX2_take, Cond.instanceMethod yX2_take, Cond.selects RX2 yX2_take yX2_take, Cond.code yX2_take cX2_take 3 none, Cond.fieldLink RX2 15 "HostLeague$Linen" "used" "[I", Cond.methodLink RX5 225 yX4_addSleeper, Cond.instanceMethod yX4_addSleeper, Cond.selects RX4 yX4_addSleeper yX4_addSleeper, Cond.code yX4_addSleeper cX4_addSleeper 3 none, Cond.methodLink RX5 231 yX3_add, Cond.instanceMethod yX3_add, Cond.selects RX3 yX3_add yX3_add, Cond.initialized RX3, Cond.code yX3_add cX3_add 4 none, Cond.fieldLink RX3 21 "HostLeague$Points" "lots" "I", Cond.fieldLink RX3 9 "HostLeague$Points" "guests" "[I", Cond.fieldLink RX3 15 "HostLeague$Points" "inns" "[I", Cond.fieldLink RX3 18 "HostLeague$Points" "left" "[I"]
def wsX5_come : List Cond := .code yX5_come cX5_come 3 (some .int) :: ((wsX5_come_r1 ++ (wsX5_come_r2 ++ (wsX5_come_r3 ++ (wsX5_come_r4 ++ wsX5_come_r5)))) ++ wsX50 ++ wsX00 ++ wsX40 ++ wsX20 ++ wsX10 ++ wsX30 ++ (vx_atS RX5 86 "java/lang/IllegalStateException" ["java/lang/RuntimeException", "java/lang/Exception"]).filter goodWord ++ (vx_atS RX5 178 "java/lang/IndexOutOfBoundsException" ["java/lang/RuntimeException", "java/lang/Exception"]).filter goodWord)
def wsX5_burnEarliest : List Cond := .code yX5_burnEarliest cX5_burnEarliest 7 none :: ([.fieldLink RX5 33 "HostLeague" "earned" "LHostLeague$Points;", .fieldLink RX5 239 "HostLeague$Points" "lots" "I", .fieldLink RX5 245 "HostLeague$Points" "inns" "[I", .fieldLink RX5 40 "HostLeague" "debts" "LHostLeague$Debts;", .methodLink RX5 242 yX3_takeFrom, .instanceMethod yX3_takeFrom, .selects RX3 yX3_takeFrom yX3_takeFrom, .initialized RX3, .code yX3_takeFrom cX3_takeFrom 5 (some .int), .fieldLink RX3 9 "HostLeague$Points" "guests" "[I", .fieldLink RX3 18 "HostLeague$Points" "left" "[I", .methodLink RX3 25 Lib.Math.min.name, .static Lib.Math.min.name, .initialized "java/lang/Math", .code Lib.Math.min.name Lib.Math.min.code 2 (some .int), .methodLink RX5 219 yX1_owe, .instanceMethod yX1_owe, .selects RX1 yX1_owe yX1_owe, .initialized RX1, .code yX1_owe cX1_owe 4 none, .fieldLink RX1 15 "HostLeague$Debts" "balances" "[I", .methodLink RX1 18 yX1_row, .static yX1_row, .code yX1_row cX1_row 2 (some .int)] ++ wsX50 ++ wsX30 ++ wsX10)
def wsX5_burn_r1 : List Cond := [Cond.classLink RX5 82 "java/lang/IllegalStateException", Cond.initialized "java/lang/IllegalStateException", Cond.fieldLink RX5 33 "HostLeague" "earned" "LHostLeague$Points;", Cond.methodLink RX5 71 yX5_checkGuest, Cond.static yX5_checkGuest, Cond.initialized RX5, Cond.code yX5_checkGuest cX5_checkGuest 1 none, Cond.classLink RX5 174 "java/lang/IndexOutOfBoundsException", Cond.initialized "java/lang/IndexOutOfBoundsException", Cond.methodLink RX5 48 yX5_checkInn, Cond.static yX5_checkInn, Cond.code yX5_checkInn cX5_checkInn 1 none, Cond.methodLink RX5 55 yX5_checkRange, Cond.static yX5_checkRange, Cond.code yX5_checkRange cX5_checkRange 3 none, Cond.classLink RX5 185 "java/lang/IllegalArgumentException", Cond.initialized "java/lang/IllegalArgumentException", Cond.methodLink RX5 121 yX3_ofGuest, Cond.instanceMethod yX3_ofGuest, Cond.selects RX3 yX3_ofGuest yX3_ofGuest, Cond.initialized RX3, Cond.code yX3_ofGuest cX3_ofGuest 4 (some .int), Cond.fieldLink RX3 21 "HostLeague$Points" "lots" "I", Cond.fieldLink RX3 9 "HostLeague$Points" "guests" "[I"]
def wsX5_burn_r2 : List Cond := [Cond.fieldLink RX3 18 "HostLeague$Points" "left" "[I", Cond.methodLink RX5 127 yX5_burnEarliest, Cond.instanceMethod yX5_burnEarliest, Cond.selects RX5 yX5_burnEarliest yX5_burnEarliest, Cond.code yX5_burnEarliest cX5_burnEarliest 7 none, Cond.fieldLink RX5 239 "HostLeague$Points" "lots" "I", Cond.fieldLink RX5 245 "HostLeague$Points" "inns" "[I", Cond.fieldLink RX5 40 "HostLeague" "debts" "LHostLeague$Debts;", Cond.methodLink RX5 242 yX3_takeFrom, Cond.instanceMethod yX3_takeFrom, Cond.selects RX3 yX3_takeFrom yX3_takeFrom, Cond.code yX3_takeFrom cX3_takeFrom 5 (some .int), Cond.methodLink RX3 25 Lib.Math.min.name, Cond.static Lib.Math.min.name, Cond.initialized "java/lang/Math", Cond.code Lib.Math.min.name Lib.Math.min.code 2 (some .int), Cond.methodLink RX5 219 yX1_owe, Cond.instanceMethod yX1_owe, Cond.selects RX1 yX1_owe yX1_owe, Cond.initialized RX1, Cond.code yX1_owe cX1_owe 4 none, Cond.fieldLink RX1 15 "HostLeague$Debts" "balances" "[I", Cond.methodLink RX1 18 yX1_row, Cond.static yX1_row]
def wsX5_burn_r3 : List Cond := [Cond.code yX1_row cX1_row 2 (some .int)]
def wsX5_burn : List Cond := .code yX5_burn cX5_burn 4 (some .int) :: ((wsX5_burn_r1 ++ (wsX5_burn_r2 ++ wsX5_burn_r3)) ++ wsX50 ++ wsX30 ++ wsX10 ++ (vx_atS RX5 86 "java/lang/IllegalStateException" ["java/lang/RuntimeException", "java/lang/Exception"]).filter goodWord ++ (vx_atS RX5 178 "java/lang/IndexOutOfBoundsException" ["java/lang/RuntimeException", "java/lang/Exception"]).filter goodWord ++ (vx_atS RX5 189 "java/lang/IllegalArgumentException" ["java/lang/RuntimeException", "java/lang/Exception"]).filter goodWord)
def wsX5_night_r1 : List Cond := [Cond.classLink RX5 82 "java/lang/IllegalStateException", Cond.initialized "java/lang/IllegalStateException", Cond.fieldLink RX5 44 "HostLeague" "tonight" "I", Cond.fieldLink RX5 26 "HostLeague" "booked" "LHostLeague$Bookings;", Cond.fieldLink RX5 10 "HostLeague" "allRooms" "LHostLeague$Rooms;", Cond.fieldLink RX5 19 "HostLeague" "linen" "LHostLeague$Linen;", Cond.methodLink RX5 132 yX0_missedIn, Cond.instanceMethod yX0_missedIn, Cond.selects RX0 yX0_missedIn yX0_missedIn, Cond.initialized RX0, Cond.code yX0_missedIn cX0_missedIn 4 (some .int), Cond.fieldLink RX0 31 "HostLeague$Bookings" "count" "I", Cond.fieldLink RX0 21 "HostLeague$Bookings" "nights" "[I", Cond.fieldLink RX0 24 "HostLeague$Bookings" "came" "[Z", Cond.methodLink RX5 135 yX4_endNight, Cond.instanceMethod yX4_endNight, Cond.selects RX4 yX4_endNight yX4_endNight, Cond.initialized RX4, Cond.code yX4_endNight cX4_endNight 2 none, Cond.fieldLink RX4 18 "HostLeague$Rooms" "sleepers" "[I", Cond.methodLink RX5 138 yX2_endNight, Cond.instanceMethod yX2_endNight, Cond.selects RX2 yX2_endNight yX2_endNight, Cond.initialized RX2]
def wsX5_night_r2 : List Cond := [Cond.code yX2_endNight cX2_endNight 2 none, Cond.fieldLink RX2 24 "HostLeague$Linen" "due" "[I", Cond.fieldLink RX2 21 "HostLeague$Linen" "washedOneNight" "[I", Cond.fieldLink RX2 18 "HostLeague$Linen" "brought" "[I", Cond.fieldLink RX2 15 "HostLeague$Linen" "used" "[I", Cond.fieldLink RX2 27 "HostLeague$Linen" "broken" "Z", Cond.fieldLink RX2 9 "HostLeague$Linen" "clean" "[I", Cond.fieldLink RX2 31 "HostLeague$Linen" "borrowedTonight" "I"]
def wsX5_night : List Cond := .code yX5_night cX5_night 2 (some .int) :: ((wsX5_night_r1 ++ wsX5_night_r2) ++ wsX50 ++ wsX00 ++ wsX40 ++ wsX20 ++ (vx_atS RX5 86 "java/lang/IllegalStateException" ["java/lang/RuntimeException", "java/lang/Exception"]).filter goodWord)
def wsX5_settle_r1 : List Cond := [Cond.fieldLink RX5 40 "HostLeague" "debts" "LHostLeague$Debts;", Cond.methodLink RX5 139 yX1_payAll, Cond.instanceMethod yX1_payAll, Cond.selects RX1 yX1_payAll yX1_payAll, Cond.initialized RX1, Cond.code yX1_payAll cX1_payAll 4 (some .int), Cond.methodLink RX1 27 yX1_pay, Cond.instanceMethod yX1_pay, Cond.selects RX1 yX1_pay yX1_pay, Cond.code yX1_pay cX1_pay 4 (some .int), Cond.fieldLink RX1 9 "HostLeague$Debts" "purses" "[I", Cond.methodLink RX1 30 yX1_between, Cond.instanceMethod yX1_between, Cond.selects RX1 yX1_between yX1_between, Cond.code yX1_between cX1_between 3 (some .int), Cond.fieldLink RX1 15 "HostLeague$Debts" "balances" "[I", Cond.methodLink RX1 22 Lib.Math.max.name, Cond.static Lib.Math.max.name, Cond.initialized "java/lang/Math", Cond.code Lib.Math.max.name Lib.Math.max.code 2 (some .int), Cond.methodLink RX1 18 yX1_row, Cond.static yX1_row, Cond.code yX1_row cX1_row 2 (some .int), Cond.methodLink RX1 33 yX1_owe]
def wsX5_settle_r2 : List Cond := [Cond.instanceMethod yX1_owe, Cond.selects RX1 yX1_owe yX1_owe, Cond.code yX1_owe cX1_owe 4 none]
def wsX5_settle : List Cond := .code yX5_settle cX5_settle 1 (some .int) :: ((wsX5_settle_r1 ++ wsX5_settle_r2) ++ wsX50 ++ wsX10)
def wsX5_today : List Cond := .code yX5_today cX5_today 1 (some .int) :: ([.fieldLink RX5 44 "HostLeague" "tonight" "I"] ++ wsX50)
def wsX5_bookings : List Cond := .code yX5_bookings cX5_bookings 1 (some .int) :: ([.fieldLink RX5 26 "HostLeague" "booked" "LHostLeague$Bookings;", .fieldLink RX5 143 "HostLeague$Bookings" "count" "I"] ++ wsX50 ++ wsX00)
def wsX5_free_r1 : List Cond := [Cond.fieldLink RX5 10 "HostLeague" "allRooms" "LHostLeague$Rooms;", Cond.methodLink RX5 48 yX5_checkInn, Cond.static yX5_checkInn, Cond.initialized RX5, Cond.code yX5_checkInn cX5_checkInn 1 none, Cond.classLink RX5 174 "java/lang/IndexOutOfBoundsException", Cond.initialized "java/lang/IndexOutOfBoundsException", Cond.methodLink RX5 52 yX5_checkKind, Cond.static yX5_checkKind, Cond.code yX5_checkKind cX5_checkKind 1 none, Cond.methodLink RX5 146 yX4_freeOf, Cond.instanceMethod yX4_freeOf, Cond.selects RX4 yX4_freeOf yX4_freeOf, Cond.initialized RX4, Cond.code yX4_freeOf cX4_freeOf 3 (some .int), Cond.methodLink RX4 31 Lib.Math.max.name, Cond.static Lib.Math.max.name, Cond.initialized "java/lang/Math", Cond.code Lib.Math.max.name Lib.Math.max.code 2 (some .int), Cond.methodLink RX4 25 yX4_countOf, Cond.instanceMethod yX4_countOf, Cond.selects RX4 yX4_countOf yX4_countOf, Cond.code yX4_countOf cX4_countOf 3 (some .int), Cond.fieldLink RX4 9 "HostLeague$Rooms" "counts" "[I"]
def wsX5_free_r2 : List Cond := [Cond.methodLink RX4 21 yX4_row, Cond.static yX4_row, Cond.code yX4_row cX4_row 2 (some .int), Cond.methodLink RX4 28 yX4_sleepersOf, Cond.instanceMethod yX4_sleepersOf, Cond.selects RX4 yX4_sleepersOf yX4_sleepersOf, Cond.code yX4_sleepersOf cX4_sleepersOf 3 (some .int), Cond.fieldLink RX4 18 "HostLeague$Rooms" "sleepers" "[I"]
def wsX5_free : List Cond := .code yX5_free cX5_free 3 (some .int) :: ((wsX5_free_r1 ++ wsX5_free_r2) ++ wsX50 ++ wsX40 ++ (vx_atS RX5 178 "java/lang/IndexOutOfBoundsException" ["java/lang/RuntimeException", "java/lang/Exception"]).filter goodWord)
def wsX5_taken : List Cond := .code yX5_taken cX5_taken 3 (some .int) :: ([.fieldLink RX5 10 "HostLeague" "allRooms" "LHostLeague$Rooms;", .methodLink RX5 48 yX5_checkInn, .static yX5_checkInn, .initialized RX5, .code yX5_checkInn cX5_checkInn 1 none, .classLink RX5 174 "java/lang/IndexOutOfBoundsException", .initialized "java/lang/IndexOutOfBoundsException", .methodLink RX5 52 yX5_checkKind, .static yX5_checkKind, .code yX5_checkKind cX5_checkKind 1 none, .methodLink RX5 149 yX4_sleepersOf, .instanceMethod yX4_sleepersOf, .selects RX4 yX4_sleepersOf yX4_sleepersOf, .initialized RX4, .code yX4_sleepersOf cX4_sleepersOf 3 (some .int), .fieldLink RX4 18 "HostLeague$Rooms" "sleepers" "[I", .methodLink RX4 21 yX4_row, .static yX4_row, .code yX4_row cX4_row 2 (some .int)] ++ wsX50 ++ wsX40 ++ (vx_atS RX5 178 "java/lang/IndexOutOfBoundsException" ["java/lang/RuntimeException", "java/lang/Exception"]).filter goodWord)
def wsX5_takenByBookings : List Cond := .code yX5_takenByBookings cX5_takenByBookings 3 (some .int) :: ([.fieldLink RX5 26 "HostLeague" "booked" "LHostLeague$Bookings;", .fieldLink RX5 44 "HostLeague" "tonight" "I", .methodLink RX5 48 yX5_checkInn, .static yX5_checkInn, .initialized RX5, .code yX5_checkInn cX5_checkInn 1 none, .classLink RX5 174 "java/lang/IndexOutOfBoundsException", .initialized "java/lang/IndexOutOfBoundsException", .methodLink RX5 52 yX5_checkKind, .static yX5_checkKind, .code yX5_checkKind cX5_checkKind 1 none, .methodLink RX5 152 yX0_sleepersAt, .instanceMethod yX0_sleepersAt, .selects RX0 yX0_sleepersAt yX0_sleepersAt, .initialized RX0, .code yX0_sleepersAt cX0_sleepersAt 6 (some .int), .fieldLink RX0 31 "HostLeague$Bookings" "count" "I", .fieldLink RX0 28 "HostLeague$Bookings" "beds" "[I", .fieldLink RX0 18 "HostLeague$Bookings" "kinds" "[I", .fieldLink RX0 21 "HostLeague$Bookings" "nights" "[I"] ++ wsX50 ++ wsX00 ++ (vx_atS RX5 178 "java/lang/IndexOutOfBoundsException" ["java/lang/RuntimeException", "java/lang/Exception"]).filter goodWord)
def wsX5_extra : List Cond := .code yX5_extra cX5_extra 2 (some .int) :: ([.methodLink RX5 48 yX5_checkInn, .static yX5_checkInn, .initialized RX5, .code yX5_checkInn cX5_checkInn 1 none, .classLink RX5 174 "java/lang/IndexOutOfBoundsException", .initialized "java/lang/IndexOutOfBoundsException", .methodLink RX5 156 yX5_extraOf, .instanceMethod yX5_extraOf, .selects RX5 yX5_extraOf yX5_extraOf, .code yX5_extraOf cX5_extraOf 2 (some .int), .fieldLink RX5 26 "HostLeague" "booked" "LHostLeague$Bookings;", .fieldLink RX5 44 "HostLeague" "tonight" "I", .methodLink RX5 190 yX0_missedAt, .instanceMethod yX0_missedAt, .selects RX0 yX0_missedAt yX0_missedAt, .initialized RX0, .code yX0_missedAt cX0_missedAt 6 (some .int), .fieldLink RX0 31 "HostLeague$Bookings" "count" "I", .fieldLink RX0 15 "HostLeague$Bookings" "inns" "[I", .fieldLink RX0 21 "HostLeague$Bookings" "nights" "[I", .fieldLink RX0 24 "HostLeague$Bookings" "came" "[Z"] ++ wsX50 ++ wsX00 ++ (vx_atS RX5 178 "java/lang/IndexOutOfBoundsException" ["java/lang/RuntimeException", "java/lang/Exception"]).filter goodWord)
def wsX5_clean : List Cond := .code yX5_clean cX5_clean 2 (some .int) :: ([.fieldLink RX5 19 "HostLeague" "linen" "LHostLeague$Linen;", .fieldLink RX5 159 "HostLeague$Linen" "clean" "[I", .methodLink RX5 48 yX5_checkInn, .static yX5_checkInn, .initialized RX5, .code yX5_checkInn cX5_checkInn 1 none, .classLink RX5 174 "java/lang/IndexOutOfBoundsException", .initialized "java/lang/IndexOutOfBoundsException"] ++ wsX50 ++ wsX20 ++ (vx_atS RX5 178 "java/lang/IndexOutOfBoundsException" ["java/lang/RuntimeException", "java/lang/Exception"]).filter goodWord)
def wsX5_away : List Cond := .code yX5_away cX5_away 2 (some .int) :: ([.fieldLink RX5 19 "HostLeague" "linen" "LHostLeague$Linen;", .methodLink RX5 48 yX5_checkInn, .static yX5_checkInn, .initialized RX5, .code yX5_checkInn cX5_checkInn 1 none, .classLink RX5 174 "java/lang/IndexOutOfBoundsException", .initialized "java/lang/IndexOutOfBoundsException", .methodLink RX5 162 yX2_awayOf, .instanceMethod yX2_awayOf, .selects RX2 yX2_awayOf yX2_awayOf, .initialized RX2, .code yX2_awayOf cX2_awayOf 2 (some .int), .fieldLink RX2 15 "HostLeague$Linen" "used" "[I", .fieldLink RX2 18 "HostLeague$Linen" "brought" "[I", .fieldLink RX2 21 "HostLeague$Linen" "washedOneNight" "[I", .fieldLink RX2 24 "HostLeague$Linen" "due" "[I"] ++ wsX50 ++ wsX20 ++ (vx_atS RX5 178 "java/lang/IndexOutOfBoundsException" ["java/lang/RuntimeException", "java/lang/Exception"]).filter goodWord)
def wsX5_sleeps : List Cond := .code yX5_sleeps cX5_sleeps 2 (some .int) :: ([.fieldLink RX5 26 "HostLeague" "booked" "LHostLeague$Bookings;", .fieldLink RX5 165 "HostLeague$Bookings" "beds" "[I", .methodLink RX5 92 yX5_checkBooking, .instanceMethod yX5_checkBooking, .selects RX5 yX5_checkBooking yX5_checkBooking, .initialized RX5, .code yX5_checkBooking cX5_checkBooking 2 none, .classLink RX5 174 "java/lang/IndexOutOfBoundsException", .initialized "java/lang/IndexOutOfBoundsException", .fieldLink RX5 143 "HostLeague$Bookings" "count" "I"] ++ wsX50 ++ wsX00 ++ (vx_atS RX5 178 "java/lang/IndexOutOfBoundsException" ["java/lang/RuntimeException", "java/lang/Exception"]).filter goodWord)
def wsX5_points : List Cond := .code yX5_points cX5_points 2 (some .int) :: ([.fieldLink RX5 33 "HostLeague" "earned" "LHostLeague$Points;", .methodLink RX5 71 yX5_checkGuest, .static yX5_checkGuest, .initialized RX5, .code yX5_checkGuest cX5_checkGuest 1 none, .classLink RX5 174 "java/lang/IndexOutOfBoundsException", .initialized "java/lang/IndexOutOfBoundsException", .methodLink RX5 121 yX3_ofGuest, .instanceMethod yX3_ofGuest, .selects RX3 yX3_ofGuest yX3_ofGuest, .initialized RX3, .code yX3_ofGuest cX3_ofGuest 4 (some .int), .fieldLink RX3 21 "HostLeague$Points" "lots" "I", .fieldLink RX3 9 "HostLeague$Points" "guests" "[I", .fieldLink RX3 18 "HostLeague$Points" "left" "[I"] ++ wsX50 ++ wsX30 ++ (vx_atS RX5 178 "java/lang/IndexOutOfBoundsException" ["java/lang/RuntimeException", "java/lang/Exception"]).filter goodWord)
def wsX5_owes : List Cond := .code yX5_owes cX5_owes 3 (some .int) :: ([.fieldLink RX5 40 "HostLeague" "debts" "LHostLeague$Debts;", .methodLink RX5 48 yX5_checkInn, .static yX5_checkInn, .initialized RX5, .code yX5_checkInn cX5_checkInn 1 none, .classLink RX5 174 "java/lang/IndexOutOfBoundsException", .initialized "java/lang/IndexOutOfBoundsException", .methodLink RX5 168 yX1_between, .instanceMethod yX1_between, .selects RX1 yX1_between yX1_between, .initialized RX1, .code yX1_between cX1_between 3 (some .int), .fieldLink RX1 15 "HostLeague$Debts" "balances" "[I", .methodLink RX1 22 Lib.Math.max.name, .static Lib.Math.max.name, .initialized "java/lang/Math", .code Lib.Math.max.name Lib.Math.max.code 2 (some .int), .methodLink RX1 18 yX1_row, .static yX1_row, .code yX1_row cX1_row 2 (some .int)] ++ wsX50 ++ wsX10 ++ (vx_atS RX5 178 "java/lang/IndexOutOfBoundsException" ["java/lang/RuntimeException", "java/lang/Exception"]).filter goodWord)
def wsX5_purse : List Cond := .code yX5_purse cX5_purse 2 (some .int) :: ([.fieldLink RX5 40 "HostLeague" "debts" "LHostLeague$Debts;", .fieldLink RX5 171 "HostLeague$Debts" "purses" "[I", .methodLink RX5 48 yX5_checkInn, .static yX5_checkInn, .initialized RX5, .code yX5_checkInn cX5_checkInn 1 none, .classLink RX5 174 "java/lang/IndexOutOfBoundsException", .initialized "java/lang/IndexOutOfBoundsException"] ++ wsX50 ++ wsX10 ++ (vx_atS RX5 178 "java/lang/IndexOutOfBoundsException" ["java/lang/RuntimeException", "java/lang/Exception"]).filter goodWord)
def wsX6_init : List Cond := .code yX6_init cX6_init 2 none :: ([.methodLink RX6 1 objectInit, .instanceMethod objectInit, .code objectInit ⟨#[0xb1]⟩ 1 none, .arrayClass .int, .fieldLink RX6 7 "HostLeagueModel" "rooms" "[I", .fieldLink RX6 13 "HostLeagueModel" "price" "[I", .fieldLink RX6 16 "HostLeagueModel" "taken" "[I", .fieldLink RX6 19 "HostLeagueModel" "clean" "[I", .fieldLink RX6 22 "HostLeagueModel" "used" "[I", .fieldLink RX6 25 "HostLeagueModel" "purse" "[I", .fieldLink RX6 28 "HostLeagueModel" "debt" "[I", .fieldLink RX6 31 "HostLeagueModel" "wash" "[I", .fieldLink RX6 34 "HostLeagueModel" "missed" "[I", .fieldLink RX6 37 "HostLeagueModel" "guest" "[I", .fieldLink RX6 40 "HostLeagueModel" "inn" "[I", .fieldLink RX6 43 "HostLeagueModel" "kind" "[I", .fieldLink RX6 46 "HostLeagueModel" "on" "[I", .arrayClass .boolean, .fieldLink RX6 49 "HostLeagueModel" "came" "[Z", .fieldLink RX6 53 "HostLeagueModel" "sleeps" "[I", .fieldLink RX6 56 "HostLeagueModel" "earner" "[I", .fieldLink RX6 59 "HostLeagueModel" "earnedAt" "[I", .fieldLink RX6 62 "HostLeagueModel" "left" "[I"] ++ wsX60)
def wsX6_thrown : List Cond := .code yX6_thrown cX6_thrown 1 (some .int) :: ([.fieldLink RX6 65 "HostLeagueModel" "thrown" "I"] ++ wsX60)
def wsX6_in : List Cond := .code yX6_in cX6_in 3 (some .boolean) :: ([])
def wsX6_isFine : List Cond := .code yX6_isFine cX6_isFine 2 (some .boolean) :: ([.fieldLink RX6 65 "HostLeagueModel" "thrown" "I"] ++ wsX60)
def wsX6_isInn : List Cond := .code yX6_isInn cX6_isInn 1 (some .boolean) :: ([.methodLink RX6 69 yX6_in, .static yX6_in, .initialized RX6, .code yX6_in cX6_in 3 (some .boolean)])
def wsX6_isRoom : List Cond := .code yX6_isRoom cX6_isRoom 2 (some .boolean) :: ([.methodLink RX6 73 yX6_isInn, .static yX6_isInn, .initialized RX6, .code yX6_isInn cX6_isInn 1 (some .boolean), .methodLink RX6 69 yX6_in, .static yX6_in, .code yX6_in cX6_in 3 (some .boolean)])
def wsX6_isGuest : List Cond := .code yX6_isGuest cX6_isGuest 1 (some .boolean) :: ([.methodLink RX6 69 yX6_in, .static yX6_in, .initialized RX6, .code yX6_in cX6_in 3 (some .boolean)])
def wsX6_setRooms : List Cond := .code yX6_setRooms cX6_setRooms 6 (some .int) :: ([.fieldLink RX6 7 "HostLeagueModel" "rooms" "[I", .fieldLink RX6 13 "HostLeagueModel" "price" "[I", .methodLink RX6 77 yX6_isRoom, .static yX6_isRoom, .initialized RX6, .code yX6_isRoom cX6_isRoom 2 (some .boolean), .methodLink RX6 73 yX6_isInn, .static yX6_isInn, .code yX6_isInn cX6_isInn 1 (some .boolean), .methodLink RX6 69 yX6_in, .static yX6_in, .code yX6_in cX6_in 3 (some .boolean), .methodLink RX6 81 yX6_isFine, .instanceMethod yX6_isFine, .selects RX6 yX6_isFine yX6_isFine, .code yX6_isFine cX6_isFine 2 (some .boolean), .fieldLink RX6 65 "HostLeagueModel" "thrown" "I"] ++ wsX60)
def wsX6_buyLinen : List Cond := .code yX6_buyLinen cX6_buyLinen 3 (some .int) :: ([.fieldLink RX6 19 "HostLeagueModel" "clean" "[I", .methodLink RX6 73 yX6_isInn, .static yX6_isInn, .initialized RX6, .code yX6_isInn cX6_isInn 1 (some .boolean), .methodLink RX6 69 yX6_in, .static yX6_in, .code yX6_in cX6_in 3 (some .boolean), .methodLink RX6 81 yX6_isFine, .instanceMethod yX6_isFine, .selects RX6 yX6_isFine yX6_isFine, .code yX6_isFine cX6_isFine 2 (some .boolean), .fieldLink RX6 65 "HostLeagueModel" "thrown" "I"] ++ wsX60)
def wsX6_setBroken : List Cond := .code yX6_setBroken cX6_setBroken 3 (some .boolean) :: ([.fieldLink RX6 65 "HostLeagueModel" "thrown" "I", .fieldLink RX6 84 "HostLeagueModel" "broken" "Z"] ++ wsX60)
def wsX6_extraOf : List Cond := .code yX6_extraOf cX6_extraOf 4 (some .int) :: ([.fieldLink RX6 88 "HostLeagueModel" "night" "I", .fieldLink RX6 34 "HostLeagueModel" "missed" "[I"] ++ wsX60)
def wsX6_book_r1 : List Cond := [Cond.fieldLink RX6 88 "HostLeagueModel" "night" "I", Cond.fieldLink RX6 94 "HostLeagueModel" "bookings" "I", Cond.fieldLink RX6 40 "HostLeagueModel" "inn" "[I", Cond.fieldLink RX6 43 "HostLeagueModel" "kind" "[I", Cond.fieldLink RX6 46 "HostLeagueModel" "on" "[I", Cond.fieldLink RX6 7 "HostLeagueModel" "rooms" "[I", Cond.fieldLink RX6 37 "HostLeagueModel" "guest" "[I", Cond.fieldLink RX6 53 "HostLeagueModel" "sleeps" "[I", Cond.methodLink RX6 91 yX6_isGuest, Cond.static yX6_isGuest, Cond.initialized RX6, Cond.code yX6_isGuest cX6_isGuest 1 (some .boolean), Cond.methodLink RX6 69 yX6_in, Cond.static yX6_in, Cond.code yX6_in cX6_in 3 (some .boolean), Cond.methodLink RX6 77 yX6_isRoom, Cond.static yX6_isRoom, Cond.code yX6_isRoom cX6_isRoom 2 (some .boolean), Cond.methodLink RX6 73 yX6_isInn, Cond.static yX6_isInn, Cond.code yX6_isInn cX6_isInn 1 (some .boolean), Cond.methodLink RX6 97 yX6_extraOf, Cond.instanceMethod yX6_extraOf, Cond.selects RX6 yX6_extraOf yX6_extraOf]
def wsX6_book_r2 : List Cond := [Cond.code yX6_extraOf cX6_extraOf 4 (some .int), Cond.fieldLink RX6 34 "HostLeagueModel" "missed" "[I", Cond.methodLink RX6 81 yX6_isFine, Cond.instanceMethod yX6_isFine, Cond.selects RX6 yX6_isFine yX6_isFine, Cond.code yX6_isFine cX6_isFine 2 (some .boolean), Cond.fieldLink RX6 65 "HostLeagueModel" "thrown" "I"]
def wsX6_book : List Cond := .code yX6_book cX6_book 8 (some .int) :: ((wsX6_book_r1 ++ wsX6_book_r2) ++ wsX60)
def wsX6_distance : List Cond := .code yX6_distance cX6_distance 3 (some .int) :: ([])
def wsX6_isFree : List Cond := .code yX6_isFree cX6_isFree 3 (some .boolean) :: ([.fieldLink RX6 16 "HostLeagueModel" "taken" "[I", .fieldLink RX6 7 "HostLeagueModel" "rooms" "[I"] ++ wsX60)
def wsX6_richest : List Cond := .code yX6_richest cX6_richest 3 (some .int) :: ([.fieldLink RX6 19 "HostLeagueModel" "clean" "[I"] ++ wsX60)
def wsX6_finds : List Cond := .code yX6_finds cX6_finds 5 (some .int) :: ([.fieldLink RX6 19 "HostLeagueModel" "clean" "[I", .methodLink RX6 101 yX6_richest, .instanceMethod yX6_richest, .selects RX6 yX6_richest yX6_richest, .initialized RX6, .code yX6_richest cX6_richest 3 (some .int), .methodLink RX6 105 yX6_isFree, .instanceMethod yX6_isFree, .selects RX6 yX6_isFree yX6_isFree, .code yX6_isFree cX6_isFree 3 (some .boolean), .fieldLink RX6 16 "HostLeagueModel" "taken" "[I", .fieldLink RX6 7 "HostLeagueModel" "rooms" "[I", .methodLink RX6 108 yX6_distance, .static yX6_distance, .code yX6_distance cX6_distance 3 (some .int)] ++ wsX60)
def wsX6_takesLinen : List Cond := .code yX6_takesLinen cX6_takesLinen 3 none :: ([.fieldLink RX6 19 "HostLeagueModel" "clean" "[I", .fieldLink RX6 112 "HostLeagueModel" "borrowed" "I", .fieldLink RX6 28 "HostLeagueModel" "debt" "[I", .fieldLink RX6 22 "HostLeagueModel" "used" "[I", .methodLink RX6 101 yX6_richest, .instanceMethod yX6_richest, .selects RX6 yX6_richest yX6_richest, .initialized RX6, .code yX6_richest cX6_richest 3 (some .int)] ++ wsX60)
def wsX6_come_r1 : List Cond := [Cond.fieldLink RX6 94 "HostLeagueModel" "bookings" "I", Cond.fieldLink RX6 46 "HostLeagueModel" "on" "[I", Cond.fieldLink RX6 88 "HostLeagueModel" "night" "I", Cond.fieldLink RX6 49 "HostLeagueModel" "came" "[Z", Cond.fieldLink RX6 40 "HostLeagueModel" "inn" "[I", Cond.fieldLink RX6 43 "HostLeagueModel" "kind" "[I", Cond.fieldLink RX6 53 "HostLeagueModel" "sleeps" "[I", Cond.fieldLink RX6 16 "HostLeagueModel" "taken" "[I", Cond.fieldLink RX6 25 "HostLeagueModel" "purse" "[I", Cond.fieldLink RX6 13 "HostLeagueModel" "price" "[I", Cond.fieldLink RX6 28 "HostLeagueModel" "debt" "[I", Cond.fieldLink RX6 56 "HostLeagueModel" "earner" "[I", Cond.fieldLink RX6 122 "HostLeagueModel" "earned" "I", Cond.fieldLink RX6 37 "HostLeagueModel" "guest" "[I", Cond.fieldLink RX6 59 "HostLeagueModel" "earnedAt" "[I", Cond.fieldLink RX6 62 "HostLeagueModel" "left" "[I", Cond.methodLink RX6 69 yX6_in, Cond.static yX6_in, Cond.initialized RX6, Cond.code yX6_in cX6_in 3 (some .boolean), Cond.methodLink RX6 81 yX6_isFine, Cond.instanceMethod yX6_isFine, Cond.selects RX6 yX6_isFine yX6_isFine, Cond.code yX6_isFine cX6_isFine 2 (some .boolean)]
def wsX6_come_r2 : List Cond := [Cond.fieldLink RX6 65 "HostLeagueModel" "thrown" "I", Cond.methodLink RX6 115 yX6_finds, Cond.instanceMethod yX6_finds, Cond.selects RX6 yX6_finds yX6_finds, Cond.code yX6_finds cX6_finds 5 (some .int), Cond.fieldLink RX6 19 "HostLeagueModel" "clean" "[I", Cond.methodLink RX6 101 yX6_richest, Cond.instanceMethod yX6_richest, Cond.selects RX6 yX6_richest yX6_richest, Cond.code yX6_richest cX6_richest 3 (some .int), Cond.methodLink RX6 105 yX6_isFree, Cond.instanceMethod yX6_isFree, Cond.selects RX6 yX6_isFree yX6_isFree, Cond.code yX6_isFree cX6_isFree 3 (some .boolean), Cond.fieldLink RX6 7 "HostLeagueModel" "rooms" "[I", Cond.methodLink RX6 108 yX6_distance, Cond.static yX6_distance, Cond.code yX6_distance cX6_distance 3 (some .int), Cond.methodLink RX6 118 yX6_takesLinen, Cond.instanceMethod yX6_takesLinen, Cond.selects RX6 yX6_takesLinen yX6_takesLinen, Cond.code yX6_takesLinen cX6_takesLinen 3 none, Cond.fieldLink RX6 112 "HostLeagueModel" "borrowed" "I", Cond.fieldLink RX6 22 "HostLeagueModel" "used" "[I"]
def wsX6_come : List Cond := .code yX6_come cX6_come 5 (some .int) :: ((wsX6_come_r1 ++ wsX6_come_r2) ++ wsX60)
def wsX6_pointsOf : List Cond := .code yX6_pointsOf cX6_pointsOf 4 (some .int) :: ([.fieldLink RX6 122 "HostLeagueModel" "earned" "I", .fieldLink RX6 56 "HostLeagueModel" "earner" "[I", .fieldLink RX6 62 "HostLeagueModel" "left" "[I"] ++ wsX60)
def wsX6_burn : List Cond := .code yX6_burn cX6_burn 8 (some .int) :: ([.fieldLink RX6 122 "HostLeagueModel" "earned" "I", .fieldLink RX6 56 "HostLeagueModel" "earner" "[I", .fieldLink RX6 62 "HostLeagueModel" "left" "[I", .fieldLink RX6 28 "HostLeagueModel" "debt" "[I", .fieldLink RX6 59 "HostLeagueModel" "earnedAt" "[I", .methodLink RX6 91 yX6_isGuest, .static yX6_isGuest, .initialized RX6, .code yX6_isGuest cX6_isGuest 1 (some .boolean), .methodLink RX6 69 yX6_in, .static yX6_in, .code yX6_in cX6_in 3 (some .boolean), .methodLink RX6 73 yX6_isInn, .static yX6_isInn, .code yX6_isInn cX6_isInn 1 (some .boolean), .methodLink RX6 125 yX6_pointsOf, .instanceMethod yX6_pointsOf, .selects RX6 yX6_pointsOf yX6_pointsOf, .code yX6_pointsOf cX6_pointsOf 4 (some .int), .methodLink RX6 81 yX6_isFine, .instanceMethod yX6_isFine, .selects RX6 yX6_isFine yX6_isFine, .code yX6_isFine cX6_isFine 2 (some .boolean), .fieldLink RX6 65 "HostLeagueModel" "thrown" "I"] ++ wsX60)
def wsX6_night : List Cond := .code yX6_night cX6_night 4 (some .int) :: ([.fieldLink RX6 88 "HostLeagueModel" "night" "I", .fieldLink RX6 94 "HostLeagueModel" "bookings" "I", .fieldLink RX6 46 "HostLeagueModel" "on" "[I", .fieldLink RX6 49 "HostLeagueModel" "came" "[Z", .fieldLink RX6 34 "HostLeagueModel" "missed" "[I", .fieldLink RX6 40 "HostLeagueModel" "inn" "[I", .fieldLink RX6 31 "HostLeagueModel" "wash" "[I", .fieldLink RX6 22 "HostLeagueModel" "used" "[I", .fieldLink RX6 84 "HostLeagueModel" "broken" "Z", .fieldLink RX6 19 "HostLeagueModel" "clean" "[I", .fieldLink RX6 16 "HostLeagueModel" "taken" "[I", .fieldLink RX6 112 "HostLeagueModel" "borrowed" "I", .methodLink RX6 81 yX6_isFine, .instanceMethod yX6_isFine, .selects RX6 yX6_isFine yX6_isFine, .initialized RX6, .code yX6_isFine cX6_isFine 2 (some .boolean), .fieldLink RX6 65 "HostLeagueModel" "thrown" "I"] ++ wsX60)
def wsX6_owed : List Cond := .code yX6_owed cX6_owed 4 (some .int) :: ([.fieldLink RX6 28 "HostLeagueModel" "debt" "[I"] ++ wsX60)
def wsX6_settle : List Cond := .code yX6_settle cX6_settle 4 (some .int) :: ([.fieldLink RX6 65 "HostLeagueModel" "thrown" "I", .fieldLink RX6 25 "HostLeagueModel" "purse" "[I", .fieldLink RX6 28 "HostLeagueModel" "debt" "[I", .methodLink RX6 128 yX6_owed, .instanceMethod yX6_owed, .selects RX6 yX6_owed yX6_owed, .initialized RX6, .code yX6_owed cX6_owed 4 (some .int)] ++ wsX60)
def wsX6_today : List Cond := .code yX6_today cX6_today 1 (some .int) :: ([.fieldLink RX6 65 "HostLeagueModel" "thrown" "I", .fieldLink RX6 88 "HostLeagueModel" "night" "I"] ++ wsX60)
def wsX6_bookings : List Cond := .code yX6_bookings cX6_bookings 1 (some .int) :: ([.fieldLink RX6 65 "HostLeagueModel" "thrown" "I", .fieldLink RX6 94 "HostLeagueModel" "bookings" "I"] ++ wsX60)
def wsX6_free : List Cond := .code yX6_free cX6_free 4 (some .int) :: ([.fieldLink RX6 7 "HostLeagueModel" "rooms" "[I", .fieldLink RX6 16 "HostLeagueModel" "taken" "[I", .methodLink RX6 77 yX6_isRoom, .static yX6_isRoom, .initialized RX6, .code yX6_isRoom cX6_isRoom 2 (some .boolean), .methodLink RX6 73 yX6_isInn, .static yX6_isInn, .code yX6_isInn cX6_isInn 1 (some .boolean), .methodLink RX6 69 yX6_in, .static yX6_in, .code yX6_in cX6_in 3 (some .boolean), .methodLink RX6 81 yX6_isFine, .instanceMethod yX6_isFine, .selects RX6 yX6_isFine yX6_isFine, .code yX6_isFine cX6_isFine 2 (some .boolean), .fieldLink RX6 65 "HostLeagueModel" "thrown" "I"] ++ wsX60)
def wsX6_taken : List Cond := .code yX6_taken cX6_taken 3 (some .int) :: ([.fieldLink RX6 16 "HostLeagueModel" "taken" "[I", .methodLink RX6 77 yX6_isRoom, .static yX6_isRoom, .initialized RX6, .code yX6_isRoom cX6_isRoom 2 (some .boolean), .methodLink RX6 73 yX6_isInn, .static yX6_isInn, .code yX6_isInn cX6_isInn 1 (some .boolean), .methodLink RX6 69 yX6_in, .static yX6_in, .code yX6_in cX6_in 3 (some .boolean), .methodLink RX6 81 yX6_isFine, .instanceMethod yX6_isFine, .selects RX6 yX6_isFine yX6_isFine, .code yX6_isFine cX6_isFine 2 (some .boolean), .fieldLink RX6 65 "HostLeagueModel" "thrown" "I"] ++ wsX60)
def wsX6_takenByBookings : List Cond := .code yX6_takenByBookings cX6_takenByBookings 5 (some .int) :: ([.fieldLink RX6 94 "HostLeagueModel" "bookings" "I", .fieldLink RX6 46 "HostLeagueModel" "on" "[I", .fieldLink RX6 88 "HostLeagueModel" "night" "I", .fieldLink RX6 53 "HostLeagueModel" "sleeps" "[I", .fieldLink RX6 43 "HostLeagueModel" "kind" "[I", .methodLink RX6 77 yX6_isRoom, .static yX6_isRoom, .initialized RX6, .code yX6_isRoom cX6_isRoom 2 (some .boolean), .methodLink RX6 73 yX6_isInn, .static yX6_isInn, .code yX6_isInn cX6_isInn 1 (some .boolean), .methodLink RX6 69 yX6_in, .static yX6_in, .code yX6_in cX6_in 3 (some .boolean), .methodLink RX6 81 yX6_isFine, .instanceMethod yX6_isFine, .selects RX6 yX6_isFine yX6_isFine, .code yX6_isFine cX6_isFine 2 (some .boolean), .fieldLink RX6 65 "HostLeagueModel" "thrown" "I"] ++ wsX60)
def wsX6_extra : List Cond := .code yX6_extra cX6_extra 2 (some .int) :: ([.methodLink RX6 73 yX6_isInn, .static yX6_isInn, .initialized RX6, .code yX6_isInn cX6_isInn 1 (some .boolean), .methodLink RX6 69 yX6_in, .static yX6_in, .code yX6_in cX6_in 3 (some .boolean), .methodLink RX6 81 yX6_isFine, .instanceMethod yX6_isFine, .selects RX6 yX6_isFine yX6_isFine, .code yX6_isFine cX6_isFine 2 (some .boolean), .fieldLink RX6 65 "HostLeagueModel" "thrown" "I", .methodLink RX6 97 yX6_extraOf, .instanceMethod yX6_extraOf, .selects RX6 yX6_extraOf yX6_extraOf, .code yX6_extraOf cX6_extraOf 4 (some .int), .fieldLink RX6 88 "HostLeagueModel" "night" "I", .fieldLink RX6 34 "HostLeagueModel" "missed" "[I"] ++ wsX60)
def wsX6_clean : List Cond := .code yX6_clean cX6_clean 2 (some .int) :: ([.fieldLink RX6 19 "HostLeagueModel" "clean" "[I", .methodLink RX6 73 yX6_isInn, .static yX6_isInn, .initialized RX6, .code yX6_isInn cX6_isInn 1 (some .boolean), .methodLink RX6 69 yX6_in, .static yX6_in, .code yX6_in cX6_in 3 (some .boolean), .methodLink RX6 81 yX6_isFine, .instanceMethod yX6_isFine, .selects RX6 yX6_isFine yX6_isFine, .code yX6_isFine cX6_isFine 2 (some .boolean), .fieldLink RX6 65 "HostLeagueModel" "thrown" "I"] ++ wsX60)
def wsX6_away : List Cond := .code yX6_away cX6_away 4 (some .int) :: ([.fieldLink RX6 22 "HostLeagueModel" "used" "[I", .fieldLink RX6 88 "HostLeagueModel" "night" "I", .fieldLink RX6 31 "HostLeagueModel" "wash" "[I", .methodLink RX6 73 yX6_isInn, .static yX6_isInn, .initialized RX6, .code yX6_isInn cX6_isInn 1 (some .boolean), .methodLink RX6 69 yX6_in, .static yX6_in, .code yX6_in cX6_in 3 (some .boolean), .methodLink RX6 81 yX6_isFine, .instanceMethod yX6_isFine, .selects RX6 yX6_isFine yX6_isFine, .code yX6_isFine cX6_isFine 2 (some .boolean), .fieldLink RX6 65 "HostLeagueModel" "thrown" "I"] ++ wsX60)
def wsX6_sleeps : List Cond := .code yX6_sleeps cX6_sleeps 2 (some .int) :: ([.fieldLink RX6 94 "HostLeagueModel" "bookings" "I", .fieldLink RX6 53 "HostLeagueModel" "sleeps" "[I", .methodLink RX6 69 yX6_in, .static yX6_in, .initialized RX6, .code yX6_in cX6_in 3 (some .boolean), .methodLink RX6 81 yX6_isFine, .instanceMethod yX6_isFine, .selects RX6 yX6_isFine yX6_isFine, .code yX6_isFine cX6_isFine 2 (some .boolean), .fieldLink RX6 65 "HostLeagueModel" "thrown" "I"] ++ wsX60)
def wsX6_points : List Cond := .code yX6_points cX6_points 2 (some .int) :: ([.methodLink RX6 91 yX6_isGuest, .static yX6_isGuest, .initialized RX6, .code yX6_isGuest cX6_isGuest 1 (some .boolean), .methodLink RX6 69 yX6_in, .static yX6_in, .code yX6_in cX6_in 3 (some .boolean), .methodLink RX6 81 yX6_isFine, .instanceMethod yX6_isFine, .selects RX6 yX6_isFine yX6_isFine, .code yX6_isFine cX6_isFine 2 (some .boolean), .fieldLink RX6 65 "HostLeagueModel" "thrown" "I", .methodLink RX6 125 yX6_pointsOf, .instanceMethod yX6_pointsOf, .selects RX6 yX6_pointsOf yX6_pointsOf, .code yX6_pointsOf cX6_pointsOf 4 (some .int), .fieldLink RX6 122 "HostLeagueModel" "earned" "I", .fieldLink RX6 56 "HostLeagueModel" "earner" "[I", .fieldLink RX6 62 "HostLeagueModel" "left" "[I"] ++ wsX60)
def wsX6_owes : List Cond := .code yX6_owes cX6_owes 3 (some .int) :: ([.methodLink RX6 73 yX6_isInn, .static yX6_isInn, .initialized RX6, .code yX6_isInn cX6_isInn 1 (some .boolean), .methodLink RX6 69 yX6_in, .static yX6_in, .code yX6_in cX6_in 3 (some .boolean), .methodLink RX6 81 yX6_isFine, .instanceMethod yX6_isFine, .selects RX6 yX6_isFine yX6_isFine, .code yX6_isFine cX6_isFine 2 (some .boolean), .fieldLink RX6 65 "HostLeagueModel" "thrown" "I", .methodLink RX6 128 yX6_owed, .instanceMethod yX6_owed, .selects RX6 yX6_owed yX6_owed, .code yX6_owed cX6_owed 4 (some .int), .fieldLink RX6 28 "HostLeagueModel" "debt" "[I"] ++ wsX60)
def wsX6_purse : List Cond := .code yX6_purse cX6_purse 2 (some .int) :: ([.fieldLink RX6 25 "HostLeagueModel" "purse" "[I", .methodLink RX6 73 yX6_isInn, .static yX6_isInn, .initialized RX6, .code yX6_isInn cX6_isInn 1 (some .boolean), .methodLink RX6 69 yX6_in, .static yX6_in, .code yX6_in cX6_in 3 (some .boolean), .methodLink RX6 81 yX6_isFine, .instanceMethod yX6_isFine, .selects RX6 yX6_isFine yX6_isFine, .code yX6_isFine cX6_isFine 2 (some .boolean), .fieldLink RX6 65 "HostLeagueModel" "thrown" "I"] ++ wsX60)
def wsJ9_abs_0f7a4 : List Cond := .code yJ9_abs_0f7a4 cJ9_abs_0f7a4 1 (some .int) :: ([])
def wsJ9_max_7cf53 : List Cond := .code yJ9_max_7cf53 cJ9_max_7cf53 2 (some .int) :: ([])
def wsJ9_min_7cf53 : List Cond := .code yJ9_min_7cf53 cJ9_min_7cf53 2 (some .int) :: ([])
def wsL_setRooms_r1 : List Cond := [Cond.classLink RL 13 "java/lang/IndexOutOfBoundsException", Cond.classLink RL 15 "java/lang/IllegalArgumentException", Cond.methodLink RL 7 yX5_setRooms, Cond.instanceMethod yX5_setRooms, Cond.selects RX5 yX5_setRooms yX5_setRooms, Cond.initialized RX5, Cond.code yX5_setRooms cX5_setRooms 5 (some .int), Cond.fieldLink RX5 10 "HostLeague" "allRooms" "LHostLeague$Rooms;", Cond.methodLink RX5 48 yX5_checkInn, Cond.static yX5_checkInn, Cond.code yX5_checkInn cX5_checkInn 1 none, Cond.classLink RX5 174 "java/lang/IndexOutOfBoundsException", Cond.initialized "java/lang/IndexOutOfBoundsException", Cond.methodLink RX5 52 yX5_checkKind, Cond.static yX5_checkKind, Cond.code yX5_checkKind cX5_checkKind 1 none, Cond.methodLink RX5 55 yX5_checkRange, Cond.static yX5_checkRange, Cond.code yX5_checkRange cX5_checkRange 3 none, Cond.classLink RX5 185 "java/lang/IllegalArgumentException", Cond.initialized "java/lang/IllegalArgumentException", Cond.methodLink RX5 59 yX4_change, Cond.instanceMethod yX4_change, Cond.selects RX4 yX4_change yX4_change]
def wsL_setRooms_r2 : List Cond := [Cond.initialized RX4, Cond.code yX4_change cX4_change 7 (some .int), Cond.fieldLink RX4 9 "HostLeague$Rooms" "counts" "[I", Cond.fieldLink RX4 15 "HostLeague$Rooms" "prices" "[I", Cond.methodLink RX4 21 yX4_row, Cond.static yX4_row, Cond.code yX4_row cX4_row 2 (some .int)]
def wsL_setRooms : List Cond := .codeWith yL_setRooms cL_setRooms 7 (some .int) [(0, 14, 17, 13), (0, 14, 21, 15)] :: ((wsL_setRooms_r1 ++ wsL_setRooms_r2) ++ wsX50 ++ wsX40 ++ (vx_atS RX5 178 "java/lang/IndexOutOfBoundsException" ["java/lang/RuntimeException", "java/lang/Exception"]).filter goodWord ++ (vx_atS RX5 189 "java/lang/IllegalArgumentException" ["java/lang/RuntimeException", "java/lang/Exception"]).filter goodWord)
def wsL_buyLinen : List Cond := .codeWith yL_buyLinen cL_buyLinen 5 (some .int) [(0, 10, 13, 13), (0, 10, 17, 15)] :: ([.classLink RL 13 "java/lang/IndexOutOfBoundsException", .classLink RL 15 "java/lang/IllegalArgumentException", .methodLink RL 17 yX5_buyLinen, .instanceMethod yX5_buyLinen, .selects RX5 yX5_buyLinen yX5_buyLinen, .initialized RX5, .code yX5_buyLinen cX5_buyLinen 3 (some .int), .fieldLink RX5 19 "HostLeague" "linen" "LHostLeague$Linen;", .methodLink RX5 48 yX5_checkInn, .static yX5_checkInn, .code yX5_checkInn cX5_checkInn 1 none, .classLink RX5 174 "java/lang/IndexOutOfBoundsException", .initialized "java/lang/IndexOutOfBoundsException", .methodLink RX5 55 yX5_checkRange, .static yX5_checkRange, .code yX5_checkRange cX5_checkRange 3 none, .classLink RX5 185 "java/lang/IllegalArgumentException", .initialized "java/lang/IllegalArgumentException", .methodLink RX5 63 yX2_addClean, .instanceMethod yX2_addClean, .selects RX2 yX2_addClean yX2_addClean, .initialized RX2, .code yX2_addClean cX2_addClean 3 (some .int), .fieldLink RX2 9 "HostLeague$Linen" "clean" "[I"] ++ wsX50 ++ wsX20 ++ (vx_atS RX5 178 "java/lang/IndexOutOfBoundsException" ["java/lang/RuntimeException", "java/lang/Exception"]).filter goodWord ++ (vx_atS RX5 189 "java/lang/IllegalArgumentException" ["java/lang/RuntimeException", "java/lang/Exception"]).filter goodWord)
def wsL_book_r1 : List Cond := [Cond.classLink RL 13 "java/lang/IndexOutOfBoundsException", Cond.classLink RL 15 "java/lang/IllegalArgumentException", Cond.classLink RL 24 "java/lang/IllegalStateException", Cond.methodLink RL 21 yX5_book, Cond.instanceMethod yX5_book, Cond.selects RX5 yX5_book yX5_book, Cond.initialized RX5, Cond.code yX5_book cX5_book 5 (some .int), Cond.classLink RX5 82 "java/lang/IllegalStateException", Cond.initialized "java/lang/IllegalStateException", Cond.fieldLink RX5 44 "HostLeague" "tonight" "I", Cond.fieldLink RX5 26 "HostLeague" "booked" "LHostLeague$Bookings;", Cond.methodLink RX5 71 yX5_checkGuest, Cond.static yX5_checkGuest, Cond.code yX5_checkGuest cX5_checkGuest 1 none, Cond.classLink RX5 174 "java/lang/IndexOutOfBoundsException", Cond.initialized "java/lang/IndexOutOfBoundsException", Cond.methodLink RX5 48 yX5_checkInn, Cond.static yX5_checkInn, Cond.code yX5_checkInn cX5_checkInn 1 none, Cond.methodLink RX5 52 yX5_checkKind, Cond.static yX5_checkKind, Cond.code yX5_checkKind cX5_checkKind 1 none, Cond.methodLink RX5 55 yX5_checkRange]
def wsL_book_r2 : List Cond := [Cond.static yX5_checkRange, Cond.code yX5_checkRange cX5_checkRange 3 none, Cond.classLink RX5 185 "java/lang/IllegalArgumentException", Cond.initialized "java/lang/IllegalArgumentException", Cond.methodLink RX5 74 yX0_isFull, Cond.instanceMethod yX0_isFull, Cond.selects RX0 yX0_isFull yX0_isFull, Cond.initialized RX0, Cond.code yX0_isFull cX0_isFull 1 (some .boolean), Cond.fieldLink RX0 31 "HostLeague$Bookings" "count" "I", Cond.methodLink RX5 78 yX5_takesMore, Cond.instanceMethod yX5_takesMore, Cond.selects RX5 yX5_takesMore yX5_takesMore, Cond.code yX5_takesMore cX5_takesMore 4 (some .boolean), Cond.fieldLink RX5 10 "HostLeague" "allRooms" "LHostLeague$Rooms;", Cond.methodLink RX5 193 yX0_countFor, Cond.instanceMethod yX0_countFor, Cond.selects RX0 yX0_countFor yX0_countFor, Cond.code yX0_countFor cX0_countFor 6 (some .int), Cond.fieldLink RX0 15 "HostLeague$Bookings" "inns" "[I", Cond.fieldLink RX0 18 "HostLeague$Bookings" "kinds" "[I", Cond.fieldLink RX0 21 "HostLeague$Bookings" "nights" "[I", Cond.methodLink RX5 196 yX4_countOf, Cond.instanceMethod yX4_countOf]
def wsL_book_r3 : List Cond := [Cond.selects RX4 yX4_countOf yX4_countOf, Cond.initialized RX4, Cond.code yX4_countOf cX4_countOf 3 (some .int), Cond.fieldLink RX4 9 "HostLeague$Rooms" "counts" "[I", Cond.methodLink RX4 21 yX4_row, Cond.static yX4_row, Cond.code yX4_row cX4_row 2 (some .int), Cond.methodLink RX5 156 yX5_extraOf, Cond.instanceMethod yX5_extraOf, Cond.selects RX5 yX5_extraOf yX5_extraOf, Cond.code yX5_extraOf cX5_extraOf 2 (some .int), Cond.methodLink RX5 190 yX0_missedAt, Cond.instanceMethod yX0_missedAt, Cond.selects RX0 yX0_missedAt yX0_missedAt, Cond.code yX0_missedAt cX0_missedAt 6 (some .int), Cond.fieldLink RX0 24 "HostLeague$Bookings" "came" "[Z", Cond.methodLink RX5 89 yX0_add, Cond.instanceMethod yX0_add, Cond.selects RX0 yX0_add yX0_add, Cond.code yX0_add cX0_add 6 (some .int), Cond.fieldLink RX0 9 "HostLeague$Bookings" "guests" "[I", Cond.fieldLink RX0 28 "HostLeague$Bookings" "beds" "[I"]
def wsL_book : List Cond := .codeWith yL_book cL_book 7 (some .int) [(0, 14, 17, 13), (0, 14, 21, 15), (0, 14, 25, 24)] :: ((wsL_book_r1 ++ (wsL_book_r2 ++ wsL_book_r3)) ++ wsX50 ++ wsX00 ++ wsX40 ++ (vx_atS RX5 86 "java/lang/IllegalStateException" ["java/lang/RuntimeException", "java/lang/Exception"]).filter goodWord ++ (vx_atS RX5 178 "java/lang/IndexOutOfBoundsException" ["java/lang/RuntimeException", "java/lang/Exception"]).filter goodWord ++ (vx_atS RX5 189 "java/lang/IllegalArgumentException" ["java/lang/RuntimeException", "java/lang/Exception"]).filter goodWord)
def wsL_come_r1 : List Cond := [Cond.classLink RL 13 "java/lang/IndexOutOfBoundsException", Cond.classLink RL 24 "java/lang/IllegalStateException", Cond.methodLink RL 26 yX5_come, Cond.instanceMethod yX5_come, Cond.selects RX5 yX5_come yX5_come, Cond.initialized RX5, Cond.code yX5_come cX5_come 3 (some .int), Cond.classLink RX5 82 "java/lang/IllegalStateException", Cond.initialized "java/lang/IllegalStateException", Cond.fieldLink RX5 26 "HostLeague" "booked" "LHostLeague$Bookings;", Cond.fieldLink RX5 95 "HostLeague$Bookings" "nights" "[I", Cond.fieldLink RX5 44 "HostLeague" "tonight" "I", Cond.fieldLink RX5 99 "HostLeague$Bookings" "came" "[Z", Cond.fieldLink RX5 105 "HostLeague$Bookings" "inns" "[I", Cond.fieldLink RX5 108 "HostLeague$Bookings" "kinds" "[I", Cond.methodLink RX5 92 yX5_checkBooking, Cond.instanceMethod yX5_checkBooking, Cond.selects RX5 yX5_checkBooking yX5_checkBooking, Cond.code yX5_checkBooking cX5_checkBooking 2 none, Cond.classLink RX5 174 "java/lang/IndexOutOfBoundsException", Cond.initialized "java/lang/IndexOutOfBoundsException", Cond.fieldLink RX5 143 "HostLeague$Bookings" "count" "I", Cond.methodLink RX5 111 yX5_findInn, Cond.instanceMethod yX5_findInn]
def wsL_come_r2 : List Cond := [Cond.selects RX5 yX5_findInn yX5_findInn, Cond.code yX5_findInn cX5_findInn 5 (some .int), Cond.fieldLink RX5 10 "HostLeague" "allRooms" "LHostLeague$Rooms;", Cond.fieldLink RX5 19 "HostLeague" "linen" "LHostLeague$Linen;", Cond.methodLink RX5 207 yX5_distance, Cond.static yX5_distance, Cond.code yX5_distance cX5_distance 3 (some .int), Cond.methodLink RX5 199 Lib.Math.abs.name, Cond.static Lib.Math.abs.name, Cond.initialized "java/lang/Math", Cond.code Lib.Math.abs.name Lib.Math.abs.code 1 (some .int), Cond.methodLink RX5 204 Lib.Math.min.name, Cond.static Lib.Math.min.name, Cond.code Lib.Math.min.name Lib.Math.min.code 2 (some .int), Cond.methodLink RX5 146 yX4_freeOf, Cond.instanceMethod yX4_freeOf, Cond.selects RX4 yX4_freeOf yX4_freeOf, Cond.initialized RX4, Cond.code yX4_freeOf cX4_freeOf 3 (some .int), Cond.methodLink RX4 31 Lib.Math.max.name, Cond.static Lib.Math.max.name, Cond.code Lib.Math.max.name Lib.Math.max.code 2 (some .int), Cond.methodLink RX4 25 yX4_countOf, Cond.instanceMethod yX4_countOf]
def wsL_come_r3 : List Cond := [Cond.selects RX4 yX4_countOf yX4_countOf, Cond.code yX4_countOf cX4_countOf 3 (some .int), Cond.fieldLink RX4 9 "HostLeague$Rooms" "counts" "[I", Cond.methodLink RX4 21 yX4_row, Cond.static yX4_row, Cond.code yX4_row cX4_row 2 (some .int), Cond.methodLink RX4 28 yX4_sleepersOf, Cond.instanceMethod yX4_sleepersOf, Cond.selects RX4 yX4_sleepersOf yX4_sleepersOf, Cond.code yX4_sleepersOf cX4_sleepersOf 3 (some .int), Cond.fieldLink RX4 18 "HostLeague$Rooms" "sleepers" "[I", Cond.methodLink RX5 210 yX2_giverFor, Cond.instanceMethod yX2_giverFor, Cond.selects RX2 yX2_giverFor yX2_giverFor, Cond.initialized RX2, Cond.code yX2_giverFor cX2_giverFor 5 (some .int), Cond.fieldLink RX2 9 "HostLeague$Linen" "clean" "[I", Cond.methodLink RX5 114 yX0_arrive, Cond.instanceMethod yX0_arrive, Cond.selects RX0 yX0_arrive yX0_arrive, Cond.initialized RX0, Cond.code yX0_arrive cX0_arrive 3 none, Cond.fieldLink RX0 24 "HostLeague$Bookings" "came" "[Z", Cond.fieldLink RX0 28 "HostLeague$Bookings" "beds" "[I"]
def wsL_come_r4 : List Cond := [Cond.methodLink RX5 118 yX5_putUp, Cond.instanceMethod yX5_putUp, Cond.selects RX5 yX5_putUp yX5_putUp, Cond.code yX5_putUp cX5_putUp 6 none, Cond.fieldLink RX5 40 "HostLeague" "debts" "LHostLeague$Debts;", Cond.fieldLink RX5 33 "HostLeague" "earned" "LHostLeague$Points;", Cond.fieldLink RX5 228 "HostLeague$Bookings" "guests" "[I", Cond.methodLink RX5 213 yX4_priceOf, Cond.instanceMethod yX4_priceOf, Cond.selects RX4 yX4_priceOf yX4_priceOf, Cond.code yX4_priceOf cX4_priceOf 3 (some .int), Cond.fieldLink RX4 15 "HostLeague$Rooms" "prices" "[I", Cond.methodLink RX5 216 yX1_receive, Cond.instanceMethod yX1_receive, Cond.selects RX1 yX1_receive yX1_receive, Cond.initialized RX1, Cond.code yX1_receive cX1_receive 3 none, Cond.fieldLink RX1 9 "HostLeague$Debts" "purses" "[I", Cond.methodLink RX5 219 yX1_owe, Cond.instanceMethod yX1_owe, Cond.selects RX1 yX1_owe yX1_owe, Cond.code yX1_owe cX1_owe 4 none, Cond.fieldLink RX1 15 "HostLeague$Debts" "balances" "[I", Cond.methodLink RX1 18 yX1_row]
def wsL_come_r5 : List Cond := [Cond.static yX1_row, Cond.code yX1_row cX1_row 2 (some .int), Cond.methodLink RX5 222 yX5_layLinen, Cond.instanceMethod yX5_layLinen, Cond.selects RX5 yX5_layLinen yX5_layLinen, Cond.code yX5_layLinen cX5_layLinen 3 none, Cond.methodLink RX5 233 yX2_chargeForBorrowing, Cond.instanceMethod yX2_chargeForBorrowing, Cond.selects RX2 yX2_chargeForBorrowing yX2_chargeForBorrowing, Cond.code yX2_chargeForBorrowing cX2_chargeForBorrowing 1 (some .int), Cond.fieldLink RX2 31 "HostLeague$Linen" "borrowedTonight" "I", Cond.methodLink RX5 236 yX2_take, Cond.instanceMethod yX2_take, Cond.selects RX2 yX2_take yX2_take, Cond.code yX2_take cX2_take 3 none, Cond.fieldLink RX2 15 "HostLeague$Linen" "used" "[I", Cond.methodLink RX5 225 yX4_addSleeper, Cond.instanceMethod yX4_addSleeper, Cond.selects RX4 yX4_addSleeper yX4_addSleeper, Cond.code yX4_addSleeper cX4_addSleeper 3 none, Cond.methodLink RX5 231 yX3_add, Cond.instanceMethod yX3_add, Cond.selects RX3 yX3_add yX3_add, Cond.initialized RX3]
def wsL_come_r6 : List Cond := [Cond.code yX3_add cX3_add 4 none, Cond.fieldLink RX3 21 "HostLeague$Points" "lots" "I", Cond.fieldLink RX3 9 "HostLeague$Points" "guests" "[I", Cond.fieldLink RX3 15 "HostLeague$Points" "inns" "[I", Cond.fieldLink RX3 18 "HostLeague$Points" "left" "[I"]
def wsL_come : List Cond := .codeWith yL_come cL_come 4 (some .int) [(0, 9, 12, 13), (0, 9, 15, 24)] :: ((wsL_come_r1 ++ (wsL_come_r2 ++ (wsL_come_r3 ++ (wsL_come_r4 ++ (wsL_come_r5 ++ wsL_come_r6))))) ++ wsX50 ++ wsX00 ++ wsX40 ++ wsX20 ++ wsX10 ++ wsX30 ++ (vx_atS RX5 86 "java/lang/IllegalStateException" ["java/lang/RuntimeException", "java/lang/Exception"]).filter goodWord ++ (vx_atS RX5 178 "java/lang/IndexOutOfBoundsException" ["java/lang/RuntimeException", "java/lang/Exception"]).filter goodWord)
def wsL_burn_r1 : List Cond := [Cond.classLink RL 13 "java/lang/IndexOutOfBoundsException", Cond.classLink RL 15 "java/lang/IllegalArgumentException", Cond.classLink RL 24 "java/lang/IllegalStateException", Cond.methodLink RL 30 yX5_burn, Cond.instanceMethod yX5_burn, Cond.selects RX5 yX5_burn yX5_burn, Cond.initialized RX5, Cond.code yX5_burn cX5_burn 4 (some .int), Cond.classLink RX5 82 "java/lang/IllegalStateException", Cond.initialized "java/lang/IllegalStateException", Cond.fieldLink RX5 33 "HostLeague" "earned" "LHostLeague$Points;", Cond.methodLink RX5 71 yX5_checkGuest, Cond.static yX5_checkGuest, Cond.code yX5_checkGuest cX5_checkGuest 1 none, Cond.classLink RX5 174 "java/lang/IndexOutOfBoundsException", Cond.initialized "java/lang/IndexOutOfBoundsException", Cond.methodLink RX5 48 yX5_checkInn, Cond.static yX5_checkInn, Cond.code yX5_checkInn cX5_checkInn 1 none, Cond.methodLink RX5 55 yX5_checkRange, Cond.static yX5_checkRange, Cond.code yX5_checkRange cX5_checkRange 3 none, Cond.classLink RX5 185 "java/lang/IllegalArgumentException", Cond.initialized "java/lang/IllegalArgumentException"]
def wsL_burn_r2 : List Cond := [Cond.methodLink RX5 121 yX3_ofGuest, Cond.instanceMethod yX3_ofGuest, Cond.selects RX3 yX3_ofGuest yX3_ofGuest, Cond.initialized RX3, Cond.code yX3_ofGuest cX3_ofGuest 4 (some .int), Cond.fieldLink RX3 21 "HostLeague$Points" "lots" "I", Cond.fieldLink RX3 9 "HostLeague$Points" "guests" "[I", Cond.fieldLink RX3 18 "HostLeague$Points" "left" "[I", Cond.methodLink RX5 127 yX5_burnEarliest, Cond.instanceMethod yX5_burnEarliest, Cond.selects RX5 yX5_burnEarliest yX5_burnEarliest, Cond.code yX5_burnEarliest cX5_burnEarliest 7 none, Cond.fieldLink RX5 239 "HostLeague$Points" "lots" "I", Cond.fieldLink RX5 245 "HostLeague$Points" "inns" "[I", Cond.fieldLink RX5 40 "HostLeague" "debts" "LHostLeague$Debts;", Cond.methodLink RX5 242 yX3_takeFrom, Cond.instanceMethod yX3_takeFrom, Cond.selects RX3 yX3_takeFrom yX3_takeFrom, Cond.code yX3_takeFrom cX3_takeFrom 5 (some .int), Cond.methodLink RX3 25 Lib.Math.min.name, Cond.static Lib.Math.min.name, Cond.initialized "java/lang/Math", Cond.code Lib.Math.min.name Lib.Math.min.code 2 (some .int), Cond.methodLink RX5 219 yX1_owe]
def wsL_burn_r3 : List Cond := [Cond.instanceMethod yX1_owe, Cond.selects RX1 yX1_owe yX1_owe, Cond.initialized RX1, Cond.code yX1_owe cX1_owe 4 none, Cond.fieldLink RX1 15 "HostLeague$Debts" "balances" "[I", Cond.methodLink RX1 18 yX1_row, Cond.static yX1_row, Cond.code yX1_row cX1_row 2 (some .int)]
def wsL_burn : List Cond := .codeWith yL_burn cL_burn 6 (some .int) [(0, 12, 15, 13), (0, 12, 19, 15), (0, 12, 23, 24)] :: ((wsL_burn_r1 ++ (wsL_burn_r2 ++ wsL_burn_r3)) ++ wsX50 ++ wsX30 ++ wsX10 ++ (vx_atS RX5 86 "java/lang/IllegalStateException" ["java/lang/RuntimeException", "java/lang/Exception"]).filter goodWord ++ (vx_atS RX5 178 "java/lang/IndexOutOfBoundsException" ["java/lang/RuntimeException", "java/lang/Exception"]).filter goodWord ++ (vx_atS RX5 189 "java/lang/IllegalArgumentException" ["java/lang/RuntimeException", "java/lang/Exception"]).filter goodWord)
def wsL_night_r1 : List Cond := [Cond.classLink RL 24 "java/lang/IllegalStateException", Cond.methodLink RL 34 yX5_night, Cond.instanceMethod yX5_night, Cond.selects RX5 yX5_night yX5_night, Cond.initialized RX5, Cond.code yX5_night cX5_night 2 (some .int), Cond.classLink RX5 82 "java/lang/IllegalStateException", Cond.initialized "java/lang/IllegalStateException", Cond.fieldLink RX5 44 "HostLeague" "tonight" "I", Cond.fieldLink RX5 26 "HostLeague" "booked" "LHostLeague$Bookings;", Cond.fieldLink RX5 10 "HostLeague" "allRooms" "LHostLeague$Rooms;", Cond.fieldLink RX5 19 "HostLeague" "linen" "LHostLeague$Linen;", Cond.methodLink RX5 132 yX0_missedIn, Cond.instanceMethod yX0_missedIn, Cond.selects RX0 yX0_missedIn yX0_missedIn, Cond.initialized RX0, Cond.code yX0_missedIn cX0_missedIn 4 (some .int), Cond.fieldLink RX0 31 "HostLeague$Bookings" "count" "I", Cond.fieldLink RX0 21 "HostLeague$Bookings" "nights" "[I", Cond.fieldLink RX0 24 "HostLeague$Bookings" "came" "[Z", Cond.methodLink RX5 135 yX4_endNight, Cond.instanceMethod yX4_endNight, Cond.selects RX4 yX4_endNight yX4_endNight, Cond.initialized RX4]
def wsL_night_r2 : List Cond := [Cond.code yX4_endNight cX4_endNight 2 none, Cond.fieldLink RX4 18 "HostLeague$Rooms" "sleepers" "[I", Cond.methodLink RX5 138 yX2_endNight, Cond.instanceMethod yX2_endNight, Cond.selects RX2 yX2_endNight yX2_endNight, Cond.initialized RX2, Cond.code yX2_endNight cX2_endNight 2 none, Cond.fieldLink RX2 24 "HostLeague$Linen" "due" "[I", Cond.fieldLink RX2 21 "HostLeague$Linen" "washedOneNight" "[I", Cond.fieldLink RX2 18 "HostLeague$Linen" "brought" "[I", Cond.fieldLink RX2 15 "HostLeague$Linen" "used" "[I", Cond.fieldLink RX2 27 "HostLeague$Linen" "broken" "Z", Cond.fieldLink RX2 9 "HostLeague$Linen" "clean" "[I", Cond.fieldLink RX2 31 "HostLeague$Linen" "borrowedTonight" "I"]
def wsL_night : List Cond := .codeWith yL_night cL_night 3 (some .int) [(0, 8, 11, 24)] :: ((wsL_night_r1 ++ wsL_night_r2) ++ wsX50 ++ wsX00 ++ wsX40 ++ wsX20 ++ (vx_atS RX5 86 "java/lang/IllegalStateException" ["java/lang/RuntimeException", "java/lang/Exception"]).filter goodWord)
def wsL_free_r1 : List Cond := [Cond.classLink RL 13 "java/lang/IndexOutOfBoundsException", Cond.methodLink RL 38 yX5_free, Cond.instanceMethod yX5_free, Cond.selects RX5 yX5_free yX5_free, Cond.initialized RX5, Cond.code yX5_free cX5_free 3 (some .int), Cond.fieldLink RX5 10 "HostLeague" "allRooms" "LHostLeague$Rooms;", Cond.methodLink RX5 48 yX5_checkInn, Cond.static yX5_checkInn, Cond.code yX5_checkInn cX5_checkInn 1 none, Cond.classLink RX5 174 "java/lang/IndexOutOfBoundsException", Cond.initialized "java/lang/IndexOutOfBoundsException", Cond.methodLink RX5 52 yX5_checkKind, Cond.static yX5_checkKind, Cond.code yX5_checkKind cX5_checkKind 1 none, Cond.methodLink RX5 146 yX4_freeOf, Cond.instanceMethod yX4_freeOf, Cond.selects RX4 yX4_freeOf yX4_freeOf, Cond.initialized RX4, Cond.code yX4_freeOf cX4_freeOf 3 (some .int), Cond.methodLink RX4 31 Lib.Math.max.name, Cond.static Lib.Math.max.name, Cond.initialized "java/lang/Math", Cond.code Lib.Math.max.name Lib.Math.max.code 2 (some .int)]
def wsL_free_r2 : List Cond := [Cond.methodLink RX4 25 yX4_countOf, Cond.instanceMethod yX4_countOf, Cond.selects RX4 yX4_countOf yX4_countOf, Cond.code yX4_countOf cX4_countOf 3 (some .int), Cond.fieldLink RX4 9 "HostLeague$Rooms" "counts" "[I", Cond.methodLink RX4 21 yX4_row, Cond.static yX4_row, Cond.code yX4_row cX4_row 2 (some .int), Cond.methodLink RX4 28 yX4_sleepersOf, Cond.instanceMethod yX4_sleepersOf, Cond.selects RX4 yX4_sleepersOf yX4_sleepersOf, Cond.code yX4_sleepersOf cX4_sleepersOf 3 (some .int), Cond.fieldLink RX4 18 "HostLeague$Rooms" "sleepers" "[I"]
def wsL_free : List Cond := .codeWith yL_free cL_free 5 (some .int) [(0, 10, 13, 13)] :: ((wsL_free_r1 ++ wsL_free_r2) ++ wsX50 ++ wsX40 ++ (vx_atS RX5 178 "java/lang/IndexOutOfBoundsException" ["java/lang/RuntimeException", "java/lang/Exception"]).filter goodWord)
def wsL_taken : List Cond := .codeWith yL_taken cL_taken 5 (some .int) [(0, 10, 13, 13)] :: ([.classLink RL 13 "java/lang/IndexOutOfBoundsException", .methodLink RL 41 yX5_taken, .instanceMethod yX5_taken, .selects RX5 yX5_taken yX5_taken, .initialized RX5, .code yX5_taken cX5_taken 3 (some .int), .fieldLink RX5 10 "HostLeague" "allRooms" "LHostLeague$Rooms;", .methodLink RX5 48 yX5_checkInn, .static yX5_checkInn, .code yX5_checkInn cX5_checkInn 1 none, .classLink RX5 174 "java/lang/IndexOutOfBoundsException", .initialized "java/lang/IndexOutOfBoundsException", .methodLink RX5 52 yX5_checkKind, .static yX5_checkKind, .code yX5_checkKind cX5_checkKind 1 none, .methodLink RX5 149 yX4_sleepersOf, .instanceMethod yX4_sleepersOf, .selects RX4 yX4_sleepersOf yX4_sleepersOf, .initialized RX4, .code yX4_sleepersOf cX4_sleepersOf 3 (some .int), .fieldLink RX4 18 "HostLeague$Rooms" "sleepers" "[I", .methodLink RX4 21 yX4_row, .static yX4_row, .code yX4_row cX4_row 2 (some .int)] ++ wsX50 ++ wsX40 ++ (vx_atS RX5 178 "java/lang/IndexOutOfBoundsException" ["java/lang/RuntimeException", "java/lang/Exception"]).filter goodWord)
def wsL_takenByBookings_r1 : List Cond := [Cond.classLink RL 13 "java/lang/IndexOutOfBoundsException", Cond.methodLink RL 44 yX5_takenByBookings, Cond.instanceMethod yX5_takenByBookings, Cond.selects RX5 yX5_takenByBookings yX5_takenByBookings, Cond.initialized RX5, Cond.code yX5_takenByBookings cX5_takenByBookings 3 (some .int), Cond.fieldLink RX5 26 "HostLeague" "booked" "LHostLeague$Bookings;", Cond.fieldLink RX5 44 "HostLeague" "tonight" "I", Cond.methodLink RX5 48 yX5_checkInn, Cond.static yX5_checkInn, Cond.code yX5_checkInn cX5_checkInn 1 none, Cond.classLink RX5 174 "java/lang/IndexOutOfBoundsException", Cond.initialized "java/lang/IndexOutOfBoundsException", Cond.methodLink RX5 52 yX5_checkKind, Cond.static yX5_checkKind, Cond.code yX5_checkKind cX5_checkKind 1 none, Cond.methodLink RX5 152 yX0_sleepersAt, Cond.instanceMethod yX0_sleepersAt, Cond.selects RX0 yX0_sleepersAt yX0_sleepersAt, Cond.initialized RX0, Cond.code yX0_sleepersAt cX0_sleepersAt 6 (some .int), Cond.fieldLink RX0 31 "HostLeague$Bookings" "count" "I", Cond.fieldLink RX0 28 "HostLeague$Bookings" "beds" "[I", Cond.fieldLink RX0 18 "HostLeague$Bookings" "kinds" "[I"]
def wsL_takenByBookings_r2 : List Cond := [Cond.fieldLink RX0 21 "HostLeague$Bookings" "nights" "[I"]
def wsL_takenByBookings : List Cond := .codeWith yL_takenByBookings cL_takenByBookings 5 (some .int) [(0, 10, 13, 13)] :: ((wsL_takenByBookings_r1 ++ wsL_takenByBookings_r2) ++ wsX50 ++ wsX00 ++ (vx_atS RX5 178 "java/lang/IndexOutOfBoundsException" ["java/lang/RuntimeException", "java/lang/Exception"]).filter goodWord)
def wsL_extra_r1 : List Cond := [Cond.classLink RL 13 "java/lang/IndexOutOfBoundsException", Cond.methodLink RL 47 yX5_extra, Cond.instanceMethod yX5_extra, Cond.selects RX5 yX5_extra yX5_extra, Cond.initialized RX5, Cond.code yX5_extra cX5_extra 2 (some .int), Cond.methodLink RX5 48 yX5_checkInn, Cond.static yX5_checkInn, Cond.code yX5_checkInn cX5_checkInn 1 none, Cond.classLink RX5 174 "java/lang/IndexOutOfBoundsException", Cond.initialized "java/lang/IndexOutOfBoundsException", Cond.methodLink RX5 156 yX5_extraOf, Cond.instanceMethod yX5_extraOf, Cond.selects RX5 yX5_extraOf yX5_extraOf, Cond.code yX5_extraOf cX5_extraOf 2 (some .int), Cond.fieldLink RX5 26 "HostLeague" "booked" "LHostLeague$Bookings;", Cond.fieldLink RX5 44 "HostLeague" "tonight" "I", Cond.methodLink RX5 190 yX0_missedAt, Cond.instanceMethod yX0_missedAt, Cond.selects RX0 yX0_missedAt yX0_missedAt, Cond.initialized RX0, Cond.code yX0_missedAt cX0_missedAt 6 (some .int), Cond.fieldLink RX0 31 "HostLeague$Bookings" "count" "I", Cond.fieldLink RX0 15 "HostLeague$Bookings" "inns" "[I"]
def wsL_extra_r2 : List Cond := [Cond.fieldLink RX0 21 "HostLeague$Bookings" "nights" "[I", Cond.fieldLink RX0 24 "HostLeague$Bookings" "came" "[Z"]
def wsL_extra : List Cond := .codeWith yL_extra cL_extra 4 (some .int) [(0, 9, 12, 13)] :: ((wsL_extra_r1 ++ wsL_extra_r2) ++ wsX50 ++ wsX00 ++ (vx_atS RX5 178 "java/lang/IndexOutOfBoundsException" ["java/lang/RuntimeException", "java/lang/Exception"]).filter goodWord)
def wsL_clean : List Cond := .codeWith yL_clean cL_clean 4 (some .int) [(0, 9, 12, 13)] :: ([.classLink RL 13 "java/lang/IndexOutOfBoundsException", .methodLink RL 50 yX5_clean, .instanceMethod yX5_clean, .selects RX5 yX5_clean yX5_clean, .initialized RX5, .code yX5_clean cX5_clean 2 (some .int), .fieldLink RX5 19 "HostLeague" "linen" "LHostLeague$Linen;", .fieldLink RX5 159 "HostLeague$Linen" "clean" "[I", .methodLink RX5 48 yX5_checkInn, .static yX5_checkInn, .code yX5_checkInn cX5_checkInn 1 none, .classLink RX5 174 "java/lang/IndexOutOfBoundsException", .initialized "java/lang/IndexOutOfBoundsException"] ++ wsX50 ++ wsX20 ++ (vx_atS RX5 178 "java/lang/IndexOutOfBoundsException" ["java/lang/RuntimeException", "java/lang/Exception"]).filter goodWord)
def wsL_away : List Cond := .codeWith yL_away cL_away 4 (some .int) [(0, 9, 12, 13)] :: ([.classLink RL 13 "java/lang/IndexOutOfBoundsException", .methodLink RL 53 yX5_away, .instanceMethod yX5_away, .selects RX5 yX5_away yX5_away, .initialized RX5, .code yX5_away cX5_away 2 (some .int), .fieldLink RX5 19 "HostLeague" "linen" "LHostLeague$Linen;", .methodLink RX5 48 yX5_checkInn, .static yX5_checkInn, .code yX5_checkInn cX5_checkInn 1 none, .classLink RX5 174 "java/lang/IndexOutOfBoundsException", .initialized "java/lang/IndexOutOfBoundsException", .methodLink RX5 162 yX2_awayOf, .instanceMethod yX2_awayOf, .selects RX2 yX2_awayOf yX2_awayOf, .initialized RX2, .code yX2_awayOf cX2_awayOf 2 (some .int), .fieldLink RX2 15 "HostLeague$Linen" "used" "[I", .fieldLink RX2 18 "HostLeague$Linen" "brought" "[I", .fieldLink RX2 21 "HostLeague$Linen" "washedOneNight" "[I", .fieldLink RX2 24 "HostLeague$Linen" "due" "[I"] ++ wsX50 ++ wsX20 ++ (vx_atS RX5 178 "java/lang/IndexOutOfBoundsException" ["java/lang/RuntimeException", "java/lang/Exception"]).filter goodWord)
def wsL_sleeps : List Cond := .codeWith yL_sleeps cL_sleeps 4 (some .int) [(0, 9, 12, 13)] :: ([.classLink RL 13 "java/lang/IndexOutOfBoundsException", .methodLink RL 56 yX5_sleeps, .instanceMethod yX5_sleeps, .selects RX5 yX5_sleeps yX5_sleeps, .initialized RX5, .code yX5_sleeps cX5_sleeps 2 (some .int), .fieldLink RX5 26 "HostLeague" "booked" "LHostLeague$Bookings;", .fieldLink RX5 165 "HostLeague$Bookings" "beds" "[I", .methodLink RX5 92 yX5_checkBooking, .instanceMethod yX5_checkBooking, .selects RX5 yX5_checkBooking yX5_checkBooking, .code yX5_checkBooking cX5_checkBooking 2 none, .classLink RX5 174 "java/lang/IndexOutOfBoundsException", .initialized "java/lang/IndexOutOfBoundsException", .fieldLink RX5 143 "HostLeague$Bookings" "count" "I"] ++ wsX50 ++ wsX00 ++ (vx_atS RX5 178 "java/lang/IndexOutOfBoundsException" ["java/lang/RuntimeException", "java/lang/Exception"]).filter goodWord)
def wsL_points : List Cond := .codeWith yL_points cL_points 4 (some .int) [(0, 9, 12, 13)] :: ([.classLink RL 13 "java/lang/IndexOutOfBoundsException", .methodLink RL 59 yX5_points, .instanceMethod yX5_points, .selects RX5 yX5_points yX5_points, .initialized RX5, .code yX5_points cX5_points 2 (some .int), .fieldLink RX5 33 "HostLeague" "earned" "LHostLeague$Points;", .methodLink RX5 71 yX5_checkGuest, .static yX5_checkGuest, .code yX5_checkGuest cX5_checkGuest 1 none, .classLink RX5 174 "java/lang/IndexOutOfBoundsException", .initialized "java/lang/IndexOutOfBoundsException", .methodLink RX5 121 yX3_ofGuest, .instanceMethod yX3_ofGuest, .selects RX3 yX3_ofGuest yX3_ofGuest, .initialized RX3, .code yX3_ofGuest cX3_ofGuest 4 (some .int), .fieldLink RX3 21 "HostLeague$Points" "lots" "I", .fieldLink RX3 9 "HostLeague$Points" "guests" "[I", .fieldLink RX3 18 "HostLeague$Points" "left" "[I"] ++ wsX50 ++ wsX30 ++ (vx_atS RX5 178 "java/lang/IndexOutOfBoundsException" ["java/lang/RuntimeException", "java/lang/Exception"]).filter goodWord)
def wsL_owes_r1 : List Cond := [Cond.classLink RL 13 "java/lang/IndexOutOfBoundsException", Cond.methodLink RL 62 yX5_owes, Cond.instanceMethod yX5_owes, Cond.selects RX5 yX5_owes yX5_owes, Cond.initialized RX5, Cond.code yX5_owes cX5_owes 3 (some .int), Cond.fieldLink RX5 40 "HostLeague" "debts" "LHostLeague$Debts;", Cond.methodLink RX5 48 yX5_checkInn, Cond.static yX5_checkInn, Cond.code yX5_checkInn cX5_checkInn 1 none, Cond.classLink RX5 174 "java/lang/IndexOutOfBoundsException", Cond.initialized "java/lang/IndexOutOfBoundsException", Cond.methodLink RX5 168 yX1_between, Cond.instanceMethod yX1_between, Cond.selects RX1 yX1_between yX1_between, Cond.initialized RX1, Cond.code yX1_between cX1_between 3 (some .int), Cond.fieldLink RX1 15 "HostLeague$Debts" "balances" "[I", Cond.methodLink RX1 22 Lib.Math.max.name, Cond.static Lib.Math.max.name, Cond.initialized "java/lang/Math", Cond.code Lib.Math.max.name Lib.Math.max.code 2 (some .int), Cond.methodLink RX1 18 yX1_row, Cond.static yX1_row]
def wsL_owes_r2 : List Cond := [Cond.code yX1_row cX1_row 2 (some .int)]
def wsL_owes : List Cond := .codeWith yL_owes cL_owes 5 (some .int) [(0, 10, 13, 13)] :: ((wsL_owes_r1 ++ wsL_owes_r2) ++ wsX50 ++ wsX10 ++ (vx_atS RX5 178 "java/lang/IndexOutOfBoundsException" ["java/lang/RuntimeException", "java/lang/Exception"]).filter goodWord)
def wsL_purse : List Cond := .codeWith yL_purse cL_purse 4 (some .int) [(0, 9, 12, 13)] :: ([.classLink RL 13 "java/lang/IndexOutOfBoundsException", .methodLink RL 65 yX5_purse, .instanceMethod yX5_purse, .selects RX5 yX5_purse yX5_purse, .initialized RX5, .code yX5_purse cX5_purse 2 (some .int), .fieldLink RX5 40 "HostLeague" "debts" "LHostLeague$Debts;", .fieldLink RX5 171 "HostLeague$Debts" "purses" "[I", .methodLink RX5 48 yX5_checkInn, .static yX5_checkInn, .code yX5_checkInn cX5_checkInn 1 none, .classLink RX5 174 "java/lang/IndexOutOfBoundsException", .initialized "java/lang/IndexOutOfBoundsException"] ++ wsX50 ++ wsX10 ++ (vx_atS RX5 178 "java/lang/IndexOutOfBoundsException" ["java/lang/RuntimeException", "java/lang/Exception"]).filter goodWord)
def wsL_law0_r1 : List Cond := [Cond.classLink RL 8 RX5, Cond.instantiable RX5 6, Cond.initialized RX5, Cond.classLink RL 69 RX6, Cond.instantiable RX6 24, Cond.initialized RX6, Cond.arrayClass .long, Cond.methodLink RL 68 yX5_init, Cond.instanceMethod yX5_init, Cond.code yX5_init cX5_init 1 none, Cond.methodLink RX5 1 objectInit, Cond.instanceMethod objectInit, Cond.code objectInit ⟨#[0xb1]⟩ 1 none, Cond.classLink RX5 7 RX4, Cond.instantiable RX4 3, Cond.initialized RX4, Cond.fieldLink RX5 10 "HostLeague" "allRooms" "LHostLeague$Rooms;", Cond.classLink RX5 16 RX2, Cond.instantiable RX2 7, Cond.initialized RX2, Cond.fieldLink RX5 19 "HostLeague" "linen" "LHostLeague$Linen;", Cond.classLink RX5 23 RX0, Cond.instantiable RX0 7, Cond.initialized RX0]
def wsL_law0_r2 : List Cond := [Cond.fieldLink RX5 26 "HostLeague" "booked" "LHostLeague$Bookings;", Cond.classLink RX5 30 RX3, Cond.instantiable RX3 4, Cond.initialized RX3, Cond.fieldLink RX5 33 "HostLeague" "earned" "LHostLeague$Points;", Cond.classLink RX5 37 RX1, Cond.instantiable RX1 2, Cond.initialized RX1, Cond.fieldLink RX5 40 "HostLeague" "debts" "LHostLeague$Debts;", Cond.fieldLink RX5 44 "HostLeague" "tonight" "I", Cond.methodLink RX5 9 yX4_init, Cond.instanceMethod yX4_init, Cond.code yX4_init cX4_init 2 none, Cond.methodLink RX4 3 objectInit, Cond.arrayClass .int, Cond.fieldLink RX4 9 "HostLeague$Rooms" "counts" "[I", Cond.fieldLink RX4 15 "HostLeague$Rooms" "prices" "[I", Cond.fieldLink RX4 18 "HostLeague$Rooms" "sleepers" "[I", Cond.methodLink RX5 18 yX2_init, Cond.instanceMethod yX2_init, Cond.code yX2_init cX2_init 1 none, Cond.methodLink RX2 3 objectInit, Cond.fieldLink RX2 9 "HostLeague$Linen" "clean" "[I", Cond.fieldLink RX2 15 "HostLeague$Linen" "used" "[I"]
def wsL_law0_r3 : List Cond := [Cond.fieldLink RX2 18 "HostLeague$Linen" "brought" "[I", Cond.fieldLink RX2 21 "HostLeague$Linen" "washedOneNight" "[I", Cond.fieldLink RX2 24 "HostLeague$Linen" "due" "[I", Cond.fieldLink RX2 27 "HostLeague$Linen" "broken" "Z", Cond.fieldLink RX2 31 "HostLeague$Linen" "borrowedTonight" "I", Cond.methodLink RX5 25 yX0_init, Cond.instanceMethod yX0_init, Cond.code yX0_init cX0_init 1 none, Cond.methodLink RX0 3 objectInit, Cond.fieldLink RX0 9 "HostLeague$Bookings" "guests" "[I", Cond.fieldLink RX0 15 "HostLeague$Bookings" "inns" "[I", Cond.fieldLink RX0 18 "HostLeague$Bookings" "kinds" "[I", Cond.fieldLink RX0 21 "HostLeague$Bookings" "nights" "[I", Cond.arrayClass .boolean, Cond.fieldLink RX0 24 "HostLeague$Bookings" "came" "[Z", Cond.fieldLink RX0 28 "HostLeague$Bookings" "beds" "[I", Cond.fieldLink RX0 31 "HostLeague$Bookings" "count" "I", Cond.methodLink RX5 32 yX3_init, Cond.instanceMethod yX3_init, Cond.code yX3_init cX3_init 1 none, Cond.methodLink RX3 3 objectInit, Cond.fieldLink RX3 9 "HostLeague$Points" "guests" "[I", Cond.fieldLink RX3 15 "HostLeague$Points" "inns" "[I", Cond.fieldLink RX3 18 "HostLeague$Points" "left" "[I"]
def wsL_law0_r4 : List Cond := [Cond.fieldLink RX3 21 "HostLeague$Points" "lots" "I", Cond.methodLink RX5 39 yX1_init, Cond.instanceMethod yX1_init, Cond.code yX1_init cX1_init 1 none, Cond.methodLink RX1 3 objectInit, Cond.fieldLink RX1 9 "HostLeague$Debts" "purses" "[I", Cond.fieldLink RX1 15 "HostLeague$Debts" "balances" "[I", Cond.methodLink RL 71 yX6_init, Cond.instanceMethod yX6_init, Cond.code yX6_init cX6_init 2 none, Cond.methodLink RX6 1 objectInit, Cond.fieldLink RX6 7 "HostLeagueModel" "rooms" "[I", Cond.fieldLink RX6 13 "HostLeagueModel" "price" "[I", Cond.fieldLink RX6 16 "HostLeagueModel" "taken" "[I", Cond.fieldLink RX6 19 "HostLeagueModel" "clean" "[I", Cond.fieldLink RX6 22 "HostLeagueModel" "used" "[I", Cond.fieldLink RX6 25 "HostLeagueModel" "purse" "[I", Cond.fieldLink RX6 28 "HostLeagueModel" "debt" "[I", Cond.fieldLink RX6 31 "HostLeagueModel" "wash" "[I", Cond.fieldLink RX6 34 "HostLeagueModel" "missed" "[I", Cond.fieldLink RX6 37 "HostLeagueModel" "guest" "[I", Cond.fieldLink RX6 40 "HostLeagueModel" "inn" "[I", Cond.fieldLink RX6 43 "HostLeagueModel" "kind" "[I", Cond.fieldLink RX6 46 "HostLeagueModel" "on" "[I"]
def wsL_law0_r5 : List Cond := [Cond.fieldLink RX6 49 "HostLeagueModel" "came" "[Z", Cond.fieldLink RX6 53 "HostLeagueModel" "sleeps" "[I", Cond.fieldLink RX6 56 "HostLeagueModel" "earner" "[I", Cond.fieldLink RX6 59 "HostLeagueModel" "earnedAt" "[I", Cond.fieldLink RX6 62 "HostLeagueModel" "left" "[I", Cond.methodLink RL 72 yL_setRooms, Cond.static yL_setRooms, Cond.initialized RL, Cond.codeWith yL_setRooms cL_setRooms 7 (some .int) [(0, 14, 17, 13), (0, 14, 21, 15)], Cond.classLink RL 13 "java/lang/IndexOutOfBoundsException", Cond.classLink RL 15 "java/lang/IllegalArgumentException", Cond.methodLink RL 7 yX5_setRooms, Cond.instanceMethod yX5_setRooms, Cond.selects RX5 yX5_setRooms yX5_setRooms, Cond.code yX5_setRooms cX5_setRooms 5 (some .int), Cond.methodLink RX5 48 yX5_checkInn, Cond.static yX5_checkInn, Cond.code yX5_checkInn cX5_checkInn 1 none, Cond.classLink RX5 174 "java/lang/IndexOutOfBoundsException", Cond.initialized "java/lang/IndexOutOfBoundsException", Cond.methodLink RX5 52 yX5_checkKind, Cond.static yX5_checkKind, Cond.code yX5_checkKind cX5_checkKind 1 none, Cond.methodLink RX5 55 yX5_checkRange]
def wsL_law0_r6 : List Cond := [Cond.static yX5_checkRange, Cond.code yX5_checkRange cX5_checkRange 3 none, Cond.classLink RX5 185 "java/lang/IllegalArgumentException", Cond.initialized "java/lang/IllegalArgumentException", Cond.methodLink RX5 59 yX4_change, Cond.instanceMethod yX4_change, Cond.selects RX4 yX4_change yX4_change, Cond.code yX4_change cX4_change 7 (some .int), Cond.methodLink RX4 21 yX4_row, Cond.static yX4_row, Cond.code yX4_row cX4_row 2 (some .int), Cond.methodLink RL 77 yX6_setRooms, Cond.instanceMethod yX6_setRooms, Cond.selects RX6 yX6_setRooms yX6_setRooms, Cond.code yX6_setRooms cX6_setRooms 6 (some .int), Cond.methodLink RX6 77 yX6_isRoom, Cond.static yX6_isRoom, Cond.code yX6_isRoom cX6_isRoom 2 (some .boolean), Cond.methodLink RX6 73 yX6_isInn, Cond.static yX6_isInn, Cond.code yX6_isInn cX6_isInn 1 (some .boolean), Cond.methodLink RX6 69 yX6_in, Cond.static yX6_in, Cond.code yX6_in cX6_in 3 (some .boolean)]
def wsL_law0_r7 : List Cond := [Cond.methodLink RX6 81 yX6_isFine, Cond.instanceMethod yX6_isFine, Cond.selects RX6 yX6_isFine yX6_isFine, Cond.code yX6_isFine cX6_isFine 2 (some .boolean), Cond.fieldLink RX6 65 "HostLeagueModel" "thrown" "I", Cond.methodLink RL 78 yX6_thrown, Cond.instanceMethod yX6_thrown, Cond.selects RX6 yX6_thrown yX6_thrown, Cond.code yX6_thrown cX6_thrown 1 (some .int), Cond.methodLink RL 81 yL_buyLinen, Cond.static yL_buyLinen, Cond.codeWith yL_buyLinen cL_buyLinen 5 (some .int) [(0, 10, 13, 13), (0, 10, 17, 15)], Cond.methodLink RL 17 yX5_buyLinen, Cond.instanceMethod yX5_buyLinen, Cond.selects RX5 yX5_buyLinen yX5_buyLinen, Cond.code yX5_buyLinen cX5_buyLinen 3 (some .int), Cond.methodLink RX5 63 yX2_addClean, Cond.instanceMethod yX2_addClean, Cond.selects RX2 yX2_addClean yX2_addClean, Cond.code yX2_addClean cX2_addClean 3 (some .int), Cond.methodLink RL 84 yX6_buyLinen, Cond.instanceMethod yX6_buyLinen, Cond.selects RX6 yX6_buyLinen yX6_buyLinen, Cond.code yX6_buyLinen cX6_buyLinen 3 (some .int)]
def wsL_law0_r8 : List Cond := [Cond.methodLink RL 85 yX5_setBroken, Cond.instanceMethod yX5_setBroken, Cond.selects RX5 yX5_setBroken yX5_setBroken, Cond.code yX5_setBroken cX5_setBroken 2 (some .boolean), Cond.methodLink RX5 67 yX2_changeBroken, Cond.instanceMethod yX2_changeBroken, Cond.selects RX2 yX2_changeBroken yX2_changeBroken, Cond.code yX2_changeBroken cX2_changeBroken 3 (some .boolean), Cond.methodLink RL 89 yX6_setBroken, Cond.instanceMethod yX6_setBroken, Cond.selects RX6 yX6_setBroken yX6_setBroken, Cond.code yX6_setBroken cX6_setBroken 3 (some .boolean), Cond.fieldLink RX6 84 "HostLeagueModel" "broken" "Z", Cond.methodLink RL 90 yL_book, Cond.static yL_book, Cond.codeWith yL_book cL_book 7 (some .int) [(0, 14, 17, 13), (0, 14, 21, 15), (0, 14, 25, 24)], Cond.classLink RL 24 "java/lang/IllegalStateException", Cond.methodLink RL 21 yX5_book, Cond.instanceMethod yX5_book, Cond.selects RX5 yX5_book yX5_book, Cond.code yX5_book cX5_book 5 (some .int), Cond.classLink RX5 82 "java/lang/IllegalStateException", Cond.initialized "java/lang/IllegalStateException", Cond.methodLink RX5 71 yX5_checkGuest]
def wsL_law0_r9 : List Cond := [Cond.static yX5_checkGuest, Cond.code yX5_checkGuest cX5_checkGuest 1 none, Cond.methodLink RX5 74 yX0_isFull, Cond.instanceMethod yX0_isFull, Cond.selects RX0 yX0_isFull yX0_isFull, Cond.code yX0_isFull cX0_isFull 1 (some .boolean), Cond.methodLink RX5 78 yX5_takesMore, Cond.instanceMethod yX5_takesMore, Cond.selects RX5 yX5_takesMore yX5_takesMore, Cond.code yX5_takesMore cX5_takesMore 4 (some .boolean), Cond.methodLink RX5 193 yX0_countFor, Cond.instanceMethod yX0_countFor, Cond.selects RX0 yX0_countFor yX0_countFor, Cond.code yX0_countFor cX0_countFor 6 (some .int), Cond.methodLink RX5 196 yX4_countOf, Cond.instanceMethod yX4_countOf, Cond.selects RX4 yX4_countOf yX4_countOf, Cond.code yX4_countOf cX4_countOf 3 (some .int), Cond.methodLink RX5 156 yX5_extraOf, Cond.instanceMethod yX5_extraOf, Cond.selects RX5 yX5_extraOf yX5_extraOf, Cond.code yX5_extraOf cX5_extraOf 2 (some .int), Cond.methodLink RX5 190 yX0_missedAt, Cond.instanceMethod yX0_missedAt]
def wsL_law0_r10 : List Cond := [Cond.selects RX0 yX0_missedAt yX0_missedAt, Cond.code yX0_missedAt cX0_missedAt 6 (some .int), Cond.methodLink RX5 89 yX0_add, Cond.instanceMethod yX0_add, Cond.selects RX0 yX0_add yX0_add, Cond.code yX0_add cX0_add 6 (some .int), Cond.methodLink RL 92 yX6_book, Cond.instanceMethod yX6_book, Cond.selects RX6 yX6_book yX6_book, Cond.code yX6_book cX6_book 8 (some .int), Cond.fieldLink RX6 88 "HostLeagueModel" "night" "I", Cond.fieldLink RX6 94 "HostLeagueModel" "bookings" "I", Cond.methodLink RX6 91 yX6_isGuest, Cond.static yX6_isGuest, Cond.code yX6_isGuest cX6_isGuest 1 (some .boolean), Cond.methodLink RX6 97 yX6_extraOf, Cond.instanceMethod yX6_extraOf, Cond.selects RX6 yX6_extraOf yX6_extraOf, Cond.code yX6_extraOf cX6_extraOf 4 (some .int), Cond.methodLink RL 93 yL_come, Cond.static yL_come, Cond.codeWith yL_come cL_come 4 (some .int) [(0, 9, 12, 13), (0, 9, 15, 24)], Cond.methodLink RL 26 yX5_come, Cond.instanceMethod yX5_come]
def wsL_law0_r11 : List Cond := [Cond.selects RX5 yX5_come yX5_come, Cond.code yX5_come cX5_come 3 (some .int), Cond.fieldLink RX5 95 "HostLeague$Bookings" "nights" "[I", Cond.fieldLink RX5 99 "HostLeague$Bookings" "came" "[Z", Cond.fieldLink RX5 105 "HostLeague$Bookings" "inns" "[I", Cond.fieldLink RX5 108 "HostLeague$Bookings" "kinds" "[I", Cond.methodLink RX5 92 yX5_checkBooking, Cond.instanceMethod yX5_checkBooking, Cond.selects RX5 yX5_checkBooking yX5_checkBooking, Cond.code yX5_checkBooking cX5_checkBooking 2 none, Cond.fieldLink RX5 143 "HostLeague$Bookings" "count" "I", Cond.methodLink RX5 111 yX5_findInn, Cond.instanceMethod yX5_findInn, Cond.selects RX5 yX5_findInn yX5_findInn, Cond.code yX5_findInn cX5_findInn 5 (some .int), Cond.methodLink RX5 207 yX5_distance, Cond.static yX5_distance, Cond.code yX5_distance cX5_distance 3 (some .int), Cond.methodLink RX5 199 Lib.Math.abs.name, Cond.static Lib.Math.abs.name, Cond.initialized "java/lang/Math", Cond.code Lib.Math.abs.name Lib.Math.abs.code 1 (some .int), Cond.methodLink RX5 204 Lib.Math.min.name, Cond.static Lib.Math.min.name]
def wsL_law0_r12 : List Cond := [Cond.code Lib.Math.min.name Lib.Math.min.code 2 (some .int), Cond.methodLink RX5 146 yX4_freeOf, Cond.instanceMethod yX4_freeOf, Cond.selects RX4 yX4_freeOf yX4_freeOf, Cond.code yX4_freeOf cX4_freeOf 3 (some .int), Cond.methodLink RX4 31 Lib.Math.max.name, Cond.static Lib.Math.max.name, Cond.code Lib.Math.max.name Lib.Math.max.code 2 (some .int), Cond.methodLink RX4 25 yX4_countOf, Cond.methodLink RX4 28 yX4_sleepersOf, Cond.instanceMethod yX4_sleepersOf, Cond.selects RX4 yX4_sleepersOf yX4_sleepersOf, Cond.code yX4_sleepersOf cX4_sleepersOf 3 (some .int), Cond.methodLink RX5 210 yX2_giverFor, Cond.instanceMethod yX2_giverFor, Cond.selects RX2 yX2_giverFor yX2_giverFor, Cond.code yX2_giverFor cX2_giverFor 5 (some .int), Cond.methodLink RX5 114 yX0_arrive, Cond.instanceMethod yX0_arrive, Cond.selects RX0 yX0_arrive yX0_arrive, Cond.code yX0_arrive cX0_arrive 3 none, Cond.methodLink RX5 118 yX5_putUp, Cond.instanceMethod yX5_putUp, Cond.selects RX5 yX5_putUp yX5_putUp]
def wsL_law0_r13 : List Cond := [Cond.code yX5_putUp cX5_putUp 6 none, Cond.fieldLink RX5 228 "HostLeague$Bookings" "guests" "[I", Cond.methodLink RX5 213 yX4_priceOf, Cond.instanceMethod yX4_priceOf, Cond.selects RX4 yX4_priceOf yX4_priceOf, Cond.code yX4_priceOf cX4_priceOf 3 (some .int), Cond.methodLink RX5 216 yX1_receive, Cond.instanceMethod yX1_receive, Cond.selects RX1 yX1_receive yX1_receive, Cond.code yX1_receive cX1_receive 3 none, Cond.methodLink RX5 219 yX1_owe, Cond.instanceMethod yX1_owe, Cond.selects RX1 yX1_owe yX1_owe, Cond.code yX1_owe cX1_owe 4 none, Cond.methodLink RX1 18 yX1_row, Cond.static yX1_row, Cond.code yX1_row cX1_row 2 (some .int), Cond.methodLink RX5 222 yX5_layLinen, Cond.instanceMethod yX5_layLinen, Cond.selects RX5 yX5_layLinen yX5_layLinen, Cond.code yX5_layLinen cX5_layLinen 3 none, Cond.methodLink RX5 233 yX2_chargeForBorrowing, Cond.instanceMethod yX2_chargeForBorrowing, Cond.selects RX2 yX2_chargeForBorrowing yX2_chargeForBorrowing]
def wsL_law0_r14 : List Cond := [Cond.code yX2_chargeForBorrowing cX2_chargeForBorrowing 1 (some .int), Cond.methodLink RX5 236 yX2_take, Cond.instanceMethod yX2_take, Cond.selects RX2 yX2_take yX2_take, Cond.code yX2_take cX2_take 3 none, Cond.methodLink RX5 225 yX4_addSleeper, Cond.instanceMethod yX4_addSleeper, Cond.selects RX4 yX4_addSleeper yX4_addSleeper, Cond.code yX4_addSleeper cX4_addSleeper 3 none, Cond.methodLink RX5 231 yX3_add, Cond.instanceMethod yX3_add, Cond.selects RX3 yX3_add yX3_add, Cond.code yX3_add cX3_add 4 none, Cond.methodLink RL 96 yX6_come, Cond.instanceMethod yX6_come, Cond.selects RX6 yX6_come yX6_come, Cond.code yX6_come cX6_come 5 (some .int), Cond.fieldLink RX6 122 "HostLeagueModel" "earned" "I", Cond.methodLink RX6 115 yX6_finds, Cond.instanceMethod yX6_finds, Cond.selects RX6 yX6_finds yX6_finds, Cond.code yX6_finds cX6_finds 5 (some .int), Cond.methodLink RX6 101 yX6_richest, Cond.instanceMethod yX6_richest]
def wsL_law0_r15 : List Cond := [Cond.selects RX6 yX6_richest yX6_richest, Cond.code yX6_richest cX6_richest 3 (some .int), Cond.methodLink RX6 105 yX6_isFree, Cond.instanceMethod yX6_isFree, Cond.selects RX6 yX6_isFree yX6_isFree, Cond.code yX6_isFree cX6_isFree 3 (some .boolean), Cond.methodLink RX6 108 yX6_distance, Cond.static yX6_distance, Cond.code yX6_distance cX6_distance 3 (some .int), Cond.methodLink RX6 118 yX6_takesLinen, Cond.instanceMethod yX6_takesLinen, Cond.selects RX6 yX6_takesLinen yX6_takesLinen, Cond.code yX6_takesLinen cX6_takesLinen 3 none, Cond.fieldLink RX6 112 "HostLeagueModel" "borrowed" "I", Cond.methodLink RL 97 yL_burn, Cond.static yL_burn, Cond.codeWith yL_burn cL_burn 6 (some .int) [(0, 12, 15, 13), (0, 12, 19, 15), (0, 12, 23, 24)], Cond.methodLink RL 30 yX5_burn, Cond.instanceMethod yX5_burn, Cond.selects RX5 yX5_burn yX5_burn, Cond.code yX5_burn cX5_burn 4 (some .int), Cond.methodLink RX5 121 yX3_ofGuest, Cond.instanceMethod yX3_ofGuest, Cond.selects RX3 yX3_ofGuest yX3_ofGuest]
def wsL_law0_r16 : List Cond := [Cond.code yX3_ofGuest cX3_ofGuest 4 (some .int), Cond.methodLink RX5 127 yX5_burnEarliest, Cond.instanceMethod yX5_burnEarliest, Cond.selects RX5 yX5_burnEarliest yX5_burnEarliest, Cond.code yX5_burnEarliest cX5_burnEarliest 7 none, Cond.fieldLink RX5 239 "HostLeague$Points" "lots" "I", Cond.fieldLink RX5 245 "HostLeague$Points" "inns" "[I", Cond.methodLink RX5 242 yX3_takeFrom, Cond.instanceMethod yX3_takeFrom, Cond.selects RX3 yX3_takeFrom yX3_takeFrom, Cond.code yX3_takeFrom cX3_takeFrom 5 (some .int), Cond.methodLink RX3 25 Lib.Math.min.name, Cond.methodLink RL 100 yX6_burn, Cond.instanceMethod yX6_burn, Cond.selects RX6 yX6_burn yX6_burn, Cond.code yX6_burn cX6_burn 8 (some .int), Cond.methodLink RX6 125 yX6_pointsOf, Cond.instanceMethod yX6_pointsOf, Cond.selects RX6 yX6_pointsOf yX6_pointsOf, Cond.code yX6_pointsOf cX6_pointsOf 4 (some .int), Cond.methodLink RL 101 yL_night, Cond.static yL_night, Cond.codeWith yL_night cL_night 3 (some .int) [(0, 8, 11, 24)], Cond.methodLink RL 34 yX5_night]
def wsL_law0_r17 : List Cond := [Cond.instanceMethod yX5_night, Cond.selects RX5 yX5_night yX5_night, Cond.code yX5_night cX5_night 2 (some .int), Cond.methodLink RX5 132 yX0_missedIn, Cond.instanceMethod yX0_missedIn, Cond.selects RX0 yX0_missedIn yX0_missedIn, Cond.code yX0_missedIn cX0_missedIn 4 (some .int), Cond.methodLink RX5 135 yX4_endNight, Cond.instanceMethod yX4_endNight, Cond.selects RX4 yX4_endNight yX4_endNight, Cond.code yX4_endNight cX4_endNight 2 none, Cond.methodLink RX5 138 yX2_endNight, Cond.instanceMethod yX2_endNight, Cond.selects RX2 yX2_endNight yX2_endNight, Cond.code yX2_endNight cX2_endNight 2 none, Cond.methodLink RL 104 yX6_night, Cond.instanceMethod yX6_night, Cond.selects RX6 yX6_night yX6_night, Cond.code yX6_night cX6_night 4 (some .int), Cond.methodLink RL 105 yX5_settle, Cond.instanceMethod yX5_settle, Cond.selects RX5 yX5_settle yX5_settle, Cond.code yX5_settle cX5_settle 1 (some .int), Cond.methodLink RX5 139 yX1_payAll]
def wsL_law0_r18 : List Cond := [Cond.instanceMethod yX1_payAll, Cond.selects RX1 yX1_payAll yX1_payAll, Cond.code yX1_payAll cX1_payAll 4 (some .int), Cond.methodLink RX1 27 yX1_pay, Cond.instanceMethod yX1_pay, Cond.selects RX1 yX1_pay yX1_pay, Cond.code yX1_pay cX1_pay 4 (some .int), Cond.methodLink RX1 30 yX1_between, Cond.instanceMethod yX1_between, Cond.selects RX1 yX1_between yX1_between, Cond.code yX1_between cX1_between 3 (some .int), Cond.methodLink RX1 22 Lib.Math.max.name, Cond.methodLink RX1 33 yX1_owe, Cond.methodLink RL 108 yX6_settle, Cond.instanceMethod yX6_settle, Cond.selects RX6 yX6_settle yX6_settle, Cond.code yX6_settle cX6_settle 4 (some .int), Cond.methodLink RX6 128 yX6_owed, Cond.instanceMethod yX6_owed, Cond.selects RX6 yX6_owed yX6_owed, Cond.code yX6_owed cX6_owed 4 (some .int), Cond.methodLink RL 109 yX5_today, Cond.instanceMethod yX5_today, Cond.selects RX5 yX5_today yX5_today]
def wsL_law0_r19 : List Cond := [Cond.code yX5_today cX5_today 1 (some .int), Cond.methodLink RL 112 yX6_today, Cond.instanceMethod yX6_today, Cond.selects RX6 yX6_today yX6_today, Cond.code yX6_today cX6_today 1 (some .int), Cond.methodLink RL 113 yX5_bookings, Cond.instanceMethod yX5_bookings, Cond.selects RX5 yX5_bookings yX5_bookings, Cond.code yX5_bookings cX5_bookings 1 (some .int), Cond.methodLink RL 116 yX6_bookings, Cond.instanceMethod yX6_bookings, Cond.selects RX6 yX6_bookings yX6_bookings, Cond.code yX6_bookings cX6_bookings 1 (some .int), Cond.methodLink RL 117 yL_free, Cond.static yL_free, Cond.codeWith yL_free cL_free 5 (some .int) [(0, 10, 13, 13)], Cond.methodLink RL 38 yX5_free, Cond.instanceMethod yX5_free, Cond.selects RX5 yX5_free yX5_free, Cond.code yX5_free cX5_free 3 (some .int), Cond.methodLink RL 119 yX6_free, Cond.instanceMethod yX6_free, Cond.selects RX6 yX6_free yX6_free, Cond.code yX6_free cX6_free 4 (some .int)]
def wsL_law0_r20 : List Cond := [Cond.methodLink RL 120 yL_taken, Cond.static yL_taken, Cond.codeWith yL_taken cL_taken 5 (some .int) [(0, 10, 13, 13)], Cond.methodLink RL 41 yX5_taken, Cond.instanceMethod yX5_taken, Cond.selects RX5 yX5_taken yX5_taken, Cond.code yX5_taken cX5_taken 3 (some .int), Cond.methodLink RX5 149 yX4_sleepersOf, Cond.methodLink RL 122 yX6_taken, Cond.instanceMethod yX6_taken, Cond.selects RX6 yX6_taken yX6_taken, Cond.code yX6_taken cX6_taken 3 (some .int), Cond.methodLink RL 123 yL_takenByBookings, Cond.static yL_takenByBookings, Cond.codeWith yL_takenByBookings cL_takenByBookings 5 (some .int) [(0, 10, 13, 13)], Cond.methodLink RL 44 yX5_takenByBookings, Cond.instanceMethod yX5_takenByBookings, Cond.selects RX5 yX5_takenByBookings yX5_takenByBookings, Cond.code yX5_takenByBookings cX5_takenByBookings 3 (some .int), Cond.methodLink RX5 152 yX0_sleepersAt, Cond.instanceMethod yX0_sleepersAt, Cond.selects RX0 yX0_sleepersAt yX0_sleepersAt, Cond.code yX0_sleepersAt cX0_sleepersAt 6 (some .int), Cond.methodLink RL 125 yX6_takenByBookings]
def wsL_law0_r21 : List Cond := [Cond.instanceMethod yX6_takenByBookings, Cond.selects RX6 yX6_takenByBookings yX6_takenByBookings, Cond.code yX6_takenByBookings cX6_takenByBookings 5 (some .int), Cond.methodLink RL 126 yL_extra, Cond.static yL_extra, Cond.codeWith yL_extra cL_extra 4 (some .int) [(0, 9, 12, 13)], Cond.methodLink RL 47 yX5_extra, Cond.instanceMethod yX5_extra, Cond.selects RX5 yX5_extra yX5_extra, Cond.code yX5_extra cX5_extra 2 (some .int), Cond.methodLink RL 128 yX6_extra, Cond.instanceMethod yX6_extra, Cond.selects RX6 yX6_extra yX6_extra, Cond.code yX6_extra cX6_extra 2 (some .int), Cond.methodLink RL 129 yL_clean, Cond.static yL_clean, Cond.codeWith yL_clean cL_clean 4 (some .int) [(0, 9, 12, 13)], Cond.methodLink RL 50 yX5_clean, Cond.instanceMethod yX5_clean, Cond.selects RX5 yX5_clean yX5_clean, Cond.code yX5_clean cX5_clean 2 (some .int), Cond.fieldLink RX5 159 "HostLeague$Linen" "clean" "[I", Cond.methodLink RL 131 yX6_clean, Cond.instanceMethod yX6_clean]
def wsL_law0_r22 : List Cond := [Cond.selects RX6 yX6_clean yX6_clean, Cond.code yX6_clean cX6_clean 2 (some .int), Cond.methodLink RL 132 yL_away, Cond.static yL_away, Cond.codeWith yL_away cL_away 4 (some .int) [(0, 9, 12, 13)], Cond.methodLink RL 53 yX5_away, Cond.instanceMethod yX5_away, Cond.selects RX5 yX5_away yX5_away, Cond.code yX5_away cX5_away 2 (some .int), Cond.methodLink RX5 162 yX2_awayOf, Cond.instanceMethod yX2_awayOf, Cond.selects RX2 yX2_awayOf yX2_awayOf, Cond.code yX2_awayOf cX2_awayOf 2 (some .int), Cond.methodLink RL 134 yX6_away, Cond.instanceMethod yX6_away, Cond.selects RX6 yX6_away yX6_away, Cond.code yX6_away cX6_away 4 (some .int), Cond.methodLink RL 135 yL_sleeps, Cond.static yL_sleeps, Cond.codeWith yL_sleeps cL_sleeps 4 (some .int) [(0, 9, 12, 13)], Cond.methodLink RL 56 yX5_sleeps, Cond.instanceMethod yX5_sleeps, Cond.selects RX5 yX5_sleeps yX5_sleeps, Cond.code yX5_sleeps cX5_sleeps 2 (some .int)]
def wsL_law0_r23 : List Cond := [Cond.fieldLink RX5 165 "HostLeague$Bookings" "beds" "[I", Cond.methodLink RL 137 yX6_sleeps, Cond.instanceMethod yX6_sleeps, Cond.selects RX6 yX6_sleeps yX6_sleeps, Cond.code yX6_sleeps cX6_sleeps 2 (some .int), Cond.methodLink RL 138 yL_points, Cond.static yL_points, Cond.codeWith yL_points cL_points 4 (some .int) [(0, 9, 12, 13)], Cond.methodLink RL 59 yX5_points, Cond.instanceMethod yX5_points, Cond.selects RX5 yX5_points yX5_points, Cond.code yX5_points cX5_points 2 (some .int), Cond.methodLink RL 140 yX6_points, Cond.instanceMethod yX6_points, Cond.selects RX6 yX6_points yX6_points, Cond.code yX6_points cX6_points 2 (some .int), Cond.methodLink RL 141 yL_owes, Cond.static yL_owes, Cond.codeWith yL_owes cL_owes 5 (some .int) [(0, 10, 13, 13)], Cond.methodLink RL 62 yX5_owes, Cond.instanceMethod yX5_owes, Cond.selects RX5 yX5_owes yX5_owes, Cond.code yX5_owes cX5_owes 3 (some .int), Cond.methodLink RX5 168 yX1_between]
def wsL_law0_r24 : List Cond := [Cond.methodLink RL 143 yX6_owes, Cond.instanceMethod yX6_owes, Cond.selects RX6 yX6_owes yX6_owes, Cond.code yX6_owes cX6_owes 3 (some .int), Cond.methodLink RL 144 yL_purse, Cond.static yL_purse, Cond.codeWith yL_purse cL_purse 4 (some .int) [(0, 9, 12, 13)], Cond.methodLink RL 65 yX5_purse, Cond.instanceMethod yX5_purse, Cond.selects RX5 yX5_purse yX5_purse, Cond.code yX5_purse cX5_purse 2 (some .int), Cond.fieldLink RX5 171 "HostLeague$Debts" "purses" "[I", Cond.methodLink RL 146 yX6_purse, Cond.instanceMethod yX6_purse, Cond.selects RX6 yX6_purse yX6_purse, Cond.code yX6_purse cX6_purse 2 (some .int)]
def wsL_law0 : List Cond := (wsL_law0_r1 ++ (wsL_law0_r2 ++ (wsL_law0_r3 ++ (wsL_law0_r4 ++ (wsL_law0_r5 ++ (wsL_law0_r6 ++ (wsL_law0_r7 ++ (wsL_law0_r8 ++ (wsL_law0_r9 ++ (wsL_law0_r10 ++ (wsL_law0_r11 ++ (wsL_law0_r12 ++ (wsL_law0_r13 ++ (wsL_law0_r14 ++ (wsL_law0_r15 ++ (wsL_law0_r16 ++ (wsL_law0_r17 ++ (wsL_law0_r18 ++ (wsL_law0_r19 ++ (wsL_law0_r20 ++ (wsL_law0_r21 ++ (wsL_law0_r22 ++ (wsL_law0_r23 ++ wsL_law0_r24))))))))))))))))))))))) ++ wsX50 ++ wsX60 ++ wsX40 ++ wsX20 ++ wsX00 ++ wsX30 ++ wsX10 ++ ([] : List Cond)
def wsL_law : List Cond := wsL_law0 ++ (vx_atS RX5 178 "java/lang/IndexOutOfBoundsException" ["java/lang/RuntimeException", "java/lang/Exception"]).filter goodWord ++ (vx_atS RX5 189 "java/lang/IllegalArgumentException" ["java/lang/RuntimeException", "java/lang/Exception"]).filter goodWord ++ (vx_atS RX5 86 "java/lang/IllegalStateException" ["java/lang/RuntimeException", "java/lang/Exception"]).filter goodWord
end
section
set_option maxRecDepth 20000 in
theorem wsL_law0_r1_in : ∀ w ∈ wsL_law0_r1, w ∈ lw_tbl := fun w h => (goodIn_r (big := lw_tbl) wsL_law0_r1 [31, 32, 17, 592, 593, 23, 802, 33, 34, 35, 36, 37, 38, 39, 40, 18, 156, 56, 57, 19, 157, 85, 86, 20] (by decide +kernel) (by decide +kernel) w h).1
set_option maxRecDepth 20000 in
theorem wsL_law0_r2_in : ∀ w ∈ wsL_law0_r2, w ∈ lw_tbl := fun w h => (goodIn_r (big := lw_tbl) wsL_law0_r2 [158, 121, 122, 21, 159, 142, 143, 22, 160, 161, 41, 42, 43, 44, 55, 45, 46, 47, 58, 59, 60, 61, 62, 64] (by decide +kernel) (by decide +kernel) w h).1
set_option maxRecDepth 20000 in
theorem wsL_law0_r3_in : ∀ w ∈ wsL_law0_r3, w ∈ lw_tbl := fun w h => (goodIn_r (big := lw_tbl) wsL_law0_r3 [65, 66, 67, 68, 69, 87, 88, 89, 90, 91, 93, 95, 97, 120, 99, 101, 103, 123, 124, 125, 126, 127, 128, 130] (by decide +kernel) (by decide +kernel) w h).1
set_option maxRecDepth 20000 in
theorem wsL_law0_r4_in : ∀ w ∈ wsL_law0_r4, w ∈ lw_tbl := fun w h => (goodIn_r (big := lw_tbl) wsL_law0_r4 [131, 144, 145, 146, 147, 148, 150, 594, 595, 596, 597, 598, 599, 600, 601, 602, 603, 607, 608, 609, 610, 611, 612, 613] (by decide +kernel) (by decide +kernel) w h).1
set_option maxRecDepth 20000 in
theorem wsL_law0_r5_in : ∀ w ∈ wsL_law0_r5, w ∈ lw_tbl := fun w h => (goodIn_r (big := lw_tbl) wsL_law0_r5 [614, 615, 617, 618, 619, 217, 218, 16, 219, 220, 221, 222, 223, 224, 225, 226, 227, 228, 229, 27, 297, 298, 299, 301] (by decide +kernel) (by decide +kernel) w h).1
set_option maxRecDepth 20000 in
theorem wsL_law0_r6_in : ∀ w ∈ wsL_law0_r6, w ∈ lw_tbl := fun w h => (goodIn_r (big := lw_tbl) wsL_law0_r6 [302, 303, 304, 28, 320, 321, 322, 323, 324, 325, 326, 675, 676, 677, 678, 679, 680, 681, 682, 683, 684, 685, 686, 687] (by decide +kernel) (by decide +kernel) w h).1
set_option maxRecDepth 20000 in
theorem wsL_law0_r7_in : ∀ w ∈ wsL_law0_r7, w ∈ lw_tbl := fun w h => (goodIn_r (big := lw_tbl) wsL_law0_r7 [688, 690, 8, 691, 621, 671, 672, 673, 674, 327, 328, 329, 330, 331, 332, 333, 334, 335, 336, 337, 692, 693, 694, 695] (by decide +kernel) (by decide +kernel) w h).1
set_option maxRecDepth 20000 in
theorem wsL_law0_r8_in : ∀ w ∈ wsL_law0_r8, w ∈ lw_tbl := fun w h => (goodIn_r (big := lw_tbl) wsL_law0_r8 [175, 176, 177, 178, 179, 180, 181, 182, 696, 697, 698, 699, 604, 338, 339, 340, 341, 342, 343, 344, 345, 374, 29, 346] (by decide +kernel) (by decide +kernel) w h).1
set_option maxRecDepth 20000 in
theorem wsL_law0_r9_in : ∀ w ∈ wsL_law0_r9, w ∈ lw_tbl := fun w h => (goodIn_r (big := lw_tbl) wsL_law0_r9 [347, 348, 350, 351, 352, 353, 354, 356, 1, 357, 358, 359, 360, 361, 362, 363, 364, 365, 366, 368, 2, 369, 370, 371] (by decide +kernel) (by decide +kernel) w h).1
set_option maxRecDepth 20000 in
theorem wsL_law0_r10_in : ∀ w ∈ wsL_law0_r10, w ∈ lw_tbl := fun w h => (goodIn_r (big := lw_tbl) wsL_law0_r10 [372, 373, 390, 391, 392, 393, 700, 701, 702, 703, 606, 616, 704, 705, 706, 707, 709, 9, 710, 394, 395, 396, 397, 398] (by decide +kernel) (by decide +kernel) w h).1
set_option maxRecDepth 20000 in
theorem wsL_law0_r11_in : ∀ w ∈ wsL_law0_r11, w ∈ lw_tbl := fun w h => (goodIn_r (big := lw_tbl) wsL_law0_r11 [399, 400, 98, 100, 94, 96, 401, 403, 3, 404, 104, 407, 409, 4, 410, 411, 412, 413, 414, 415, 30, 416, 417, 418] (by decide +kernel) (by decide +kernel) w h).1
set_option maxRecDepth 20000 in
theorem wsL_law0_r12_in : ∀ w ∈ wsL_law0_r12, w ∈ lw_tbl := fun w h => (goodIn_r (big := lw_tbl) wsL_law0_r12 [419, 420, 421, 422, 423, 429, 203, 204, 424, 425, 426, 427, 428, 430, 431, 432, 433, 434, 435, 436, 437, 438, 440, 5] (by decide +kernel) (by decide +kernel) w h).1
set_option maxRecDepth 20000 in
theorem wsL_law0_r13_in : ∀ w ∈ wsL_law0_r13, w ∈ lw_tbl := fun w h => (goodIn_r (big := lw_tbl) wsL_law0_r13 [441, 92, 442, 443, 444, 445, 446, 447, 448, 449, 450, 206, 207, 208, 199, 200, 201, 451, 453, 6, 454, 455, 456, 457] (by decide +kernel) (by decide +kernel) w h).1
set_option maxRecDepth 20000 in
theorem wsL_law0_r14_in : ∀ w ∈ wsL_law0_r14, w ∈ lw_tbl := fun w h => (goodIn_r (big := lw_tbl) wsL_law0_r14 [458, 459, 460, 461, 462, 463, 464, 465, 466, 467, 468, 469, 470, 711, 712, 713, 714, 620, 715, 717, 10, 718, 719, 721] (by decide +kernel) (by decide +kernel) w h).1
set_option maxRecDepth 20000 in
theorem wsL_law0_r15_in : ∀ w ∈ wsL_law0_r15, w ∈ lw_tbl := fun w h => (goodIn_r (big := lw_tbl) wsL_law0_r15 [11, 722, 723, 725, 12, 726, 727, 728, 729, 730, 732, 13, 733, 605, 471, 472, 473, 474, 475, 476, 477, 478, 479, 480] (by decide +kernel) (by decide +kernel) w h).1
set_option maxRecDepth 20000 in
theorem wsL_law0_r16_in : ∀ w ∈ wsL_law0_r16, w ∈ lw_tbl := fun w h => (goodIn_r (big := lw_tbl) wsL_law0_r16 [481, 483, 485, 7, 486, 132, 129, 487, 488, 489, 490, 491, 734, 735, 736, 737, 738, 740, 14, 741, 492, 493, 494, 495] (by decide +kernel) (by decide +kernel) w h).1
set_option maxRecDepth 20000 in
theorem wsL_law0_r17_in : ∀ w ∈ wsL_law0_r17, w ∈ lw_tbl := fun w h => (goodIn_r (big := lw_tbl) wsL_law0_r17 [496, 497, 498, 500, 501, 502, 503, 504, 505, 506, 507, 508, 509, 510, 511, 742, 743, 744, 745, 183, 184, 185, 186, 187] (by decide +kernel) (by decide +kernel) w h).1
set_option maxRecDepth 20000 in
theorem wsL_law0_r18_in : ∀ w ∈ wsL_law0_r18, w ∈ lw_tbl := fun w h => (goodIn_r (big := lw_tbl) wsL_law0_r18 [188, 189, 190, 191, 192, 193, 194, 195, 196, 197, 198, 202, 205, 746, 747, 748, 749, 750, 752, 15, 753, 209, 210, 211] (by decide +kernel) (by decide +kernel) w h).1
set_option maxRecDepth 20000 in
theorem wsL_law0_r19_in : ∀ w ∈ wsL_law0_r19, w ∈ lw_tbl := fun w h => (goodIn_r (big := lw_tbl) wsL_law0_r19 [212, 754, 755, 756, 757, 213, 214, 215, 216, 758, 759, 760, 761, 512, 513, 514, 515, 516, 517, 518, 762, 763, 764, 765] (by decide +kernel) (by decide +kernel) w h).1
set_option maxRecDepth 20000 in
theorem wsL_law0_r20_in : ∀ w ∈ wsL_law0_r20, w ∈ lw_tbl := fun w h => (goodIn_r (big := lw_tbl) wsL_law0_r20 [519, 520, 521, 522, 523, 524, 525, 526, 766, 767, 768, 769, 527, 528, 529, 530, 531, 532, 533, 534, 535, 536, 537, 770] (by decide +kernel) (by decide +kernel) w h).1
set_option maxRecDepth 20000 in
theorem wsL_law0_r21_in : ∀ w ∈ wsL_law0_r21, w ∈ lw_tbl := fun w h => (goodIn_r (big := lw_tbl) wsL_law0_r21 [771, 772, 773, 538, 539, 540, 541, 542, 543, 544, 774, 775, 776, 777, 545, 546, 547, 548, 549, 550, 551, 63, 778, 779] (by decide +kernel) (by decide +kernel) w h).1
set_option maxRecDepth 20000 in
theorem wsL_law0_r22_in : ∀ w ∈ wsL_law0_r22, w ∈ lw_tbl := fun w h => (goodIn_r (big := lw_tbl) wsL_law0_r22 [780, 781, 552, 553, 554, 555, 556, 557, 558, 559, 560, 561, 562, 782, 783, 784, 785, 563, 564, 565, 566, 567, 568, 569] (by decide +kernel) (by decide +kernel) w h).1
set_option maxRecDepth 20000 in
theorem wsL_law0_r23_in : ∀ w ∈ wsL_law0_r23, w ∈ lw_tbl := fun w h => (goodIn_r (big := lw_tbl) wsL_law0_r23 [102, 786, 787, 788, 789, 570, 571, 572, 573, 574, 575, 576, 790, 791, 792, 793, 577, 578, 579, 580, 581, 582, 583, 584] (by decide +kernel) (by decide +kernel) w h).1
set_option maxRecDepth 20000 in
theorem wsL_law0_r24_in : ∀ w ∈ wsL_law0_r24, w ∈ lw_tbl := fun w h => (goodIn_r (big := lw_tbl) wsL_law0_r24 [794, 795, 796, 797, 585, 586, 587, 588, 589, 590, 591, 149, 798, 799, 800, 801] (by decide +kernel) (by decide +kernel) w h).1
set_option maxRecDepth 20000 in
theorem wsL_law_w5 : ∀ w ∈ wsX50, w ∈ lw_tbl := fun w h => (goodIn_r (big := lw_tbl) wsX50 [162, 164, 166, 168, 170, 172] (by decide +kernel) (by decide +kernel) w h).1
set_option maxRecDepth 20000 in
theorem wsL_law_w6 : ∀ w ∈ wsX60, w ∈ lw_tbl := fun w h => (goodIn_r (big := lw_tbl) wsX60 [622, 624, 626, 628, 630, 632, 634, 636, 638, 640, 642, 644, 646, 648, 650, 652, 654, 656, 658, 660, 662, 664, 666, 668] (by decide +kernel) (by decide +kernel) w h).1
set_option maxRecDepth 20000 in
theorem wsL_law_w4 : ∀ w ∈ wsX40, w ∈ lw_tbl := fun w h => (goodIn_r (big := lw_tbl) wsX40 [48, 50, 52] (by decide +kernel) (by decide +kernel) w h).1
set_option maxRecDepth 20000 in
theorem wsL_law_w2 : ∀ w ∈ wsX20, w ∈ lw_tbl := fun w h => (goodIn_r (big := lw_tbl) wsX20 [70, 72, 74, 76, 78, 80, 82] (by decide +kernel) (by decide +kernel) w h).1
set_option maxRecDepth 20000 in
theorem wsL_law_w0 : ∀ w ∈ wsX00, w ∈ lw_tbl := fun w h => (goodIn_r (big := lw_tbl) wsX00 [105, 107, 109, 111, 113, 115, 117] (by decide +kernel) (by decide +kernel) w h).1
set_option maxRecDepth 20000 in
theorem wsL_law_w3 : ∀ w ∈ wsX30, w ∈ lw_tbl := fun w h => (goodIn_r (big := lw_tbl) wsX30 [133, 135, 137, 139] (by decide +kernel) (by decide +kernel) w h).1
set_option maxRecDepth 20000 in
theorem wsL_law_w1 : ∀ w ∈ wsX10, w ∈ lw_tbl := fun w h => (goodIn_r (big := lw_tbl) wsX10 [151, 153] (by decide +kernel) (by decide +kernel) w h).1
theorem wsL_law_in0 : ∀ w ∈ wsL_law0, w ∈ lw_tbl := List.forall_mem_append.mpr ⟨List.forall_mem_append.mpr ⟨List.forall_mem_append.mpr ⟨List.forall_mem_append.mpr ⟨List.forall_mem_append.mpr ⟨List.forall_mem_append.mpr ⟨List.forall_mem_append.mpr ⟨List.forall_mem_append.mpr ⟨List.forall_mem_append.mpr ⟨wsL_law0_r1_in, List.forall_mem_append.mpr ⟨wsL_law0_r2_in, List.forall_mem_append.mpr ⟨wsL_law0_r3_in, List.forall_mem_append.mpr ⟨wsL_law0_r4_in, List.forall_mem_append.mpr ⟨wsL_law0_r5_in, List.forall_mem_append.mpr ⟨wsL_law0_r6_in, List.forall_mem_append.mpr ⟨wsL_law0_r7_in, List.forall_mem_append.mpr ⟨wsL_law0_r8_in, List.forall_mem_append.mpr ⟨wsL_law0_r9_in, List.forall_mem_append.mpr ⟨wsL_law0_r10_in, List.forall_mem_append.mpr ⟨wsL_law0_r11_in, List.forall_mem_append.mpr ⟨wsL_law0_r12_in, List.forall_mem_append.mpr ⟨wsL_law0_r13_in, List.forall_mem_append.mpr ⟨wsL_law0_r14_in, List.forall_mem_append.mpr ⟨wsL_law0_r15_in, List.forall_mem_append.mpr ⟨wsL_law0_r16_in, List.forall_mem_append.mpr ⟨wsL_law0_r17_in, List.forall_mem_append.mpr ⟨wsL_law0_r18_in, List.forall_mem_append.mpr ⟨wsL_law0_r19_in, List.forall_mem_append.mpr ⟨wsL_law0_r20_in, List.forall_mem_append.mpr ⟨wsL_law0_r21_in, List.forall_mem_append.mpr ⟨wsL_law0_r22_in, List.forall_mem_append.mpr ⟨wsL_law0_r23_in, wsL_law0_r24_in⟩⟩⟩⟩⟩⟩⟩⟩⟩⟩⟩⟩⟩⟩⟩⟩⟩⟩⟩⟩⟩⟩⟩, wsL_law_w5⟩, wsL_law_w6⟩, wsL_law_w4⟩, wsL_law_w2⟩, wsL_law_w0⟩, wsL_law_w3⟩, wsL_law_w1⟩, fun _ h => absurd h List.not_mem_nil⟩
theorem wsL_law_x0 : ∀ w ∈ (vx_atS RX5 178 "java/lang/IndexOutOfBoundsException" ["java/lang/RuntimeException", "java/lang/Exception"]).filter goodWord, w ∈ lw_tbl := by decide +kernel
theorem wsL_law_x1 : ∀ w ∈ (vx_atS RX5 189 "java/lang/IllegalArgumentException" ["java/lang/RuntimeException", "java/lang/Exception"]).filter goodWord, w ∈ lw_tbl := by decide +kernel
theorem wsL_law_x2 : ∀ w ∈ (vx_atS RX5 86 "java/lang/IllegalStateException" ["java/lang/RuntimeException", "java/lang/Exception"]).filter goodWord, w ∈ lw_tbl := by decide +kernel
theorem wsL_law_in : ∀ w ∈ wsL_law, w ∈ lw_tbl := fun w h => (List.mem_append.mp h).elim (fun h => (List.mem_append.mp h).elim (fun h => (List.mem_append.mp h).elim (fun h => wsL_law_in0 w h) (fun h => wsL_law_x0 w h)) (fun h => wsL_law_x1 w h)) (fun h => wsL_law_x2 w h)
theorem inlX0 : ∀ w ∈ wsX00, w ∈ wsL_law := fun _ h => List.mem_append_left _ (List.mem_append_left _ (List.mem_append_left _ (List.mem_append_left _ (List.mem_append_left _ (List.mem_append_left _ (List.mem_append_right _ h))))))
theorem inX0 : ∀ w ∈ wsX00, w ∈ lw_tbl := fun w h => wsL_law_in w (inlX0 w h)
theorem inlX1 : ∀ w ∈ wsX10, w ∈ wsL_law := fun _ h => List.mem_append_left _ (List.mem_append_left _ (List.mem_append_left _ (List.mem_append_left _ (List.mem_append_right _ h))))
theorem inX1 : ∀ w ∈ wsX10, w ∈ lw_tbl := fun w h => wsL_law_in w (inlX1 w h)
theorem inlX2 : ∀ w ∈ wsX20, w ∈ wsL_law := fun _ h => List.mem_append_left _ (List.mem_append_left _ (List.mem_append_left _ (List.mem_append_left _ (List.mem_append_left _ (List.mem_append_left _ (List.mem_append_left _ (List.mem_append_right _ h)))))))
theorem inX2 : ∀ w ∈ wsX20, w ∈ lw_tbl := fun w h => wsL_law_in w (inlX2 w h)
theorem inlX3 : ∀ w ∈ wsX30, w ∈ wsL_law := fun _ h => List.mem_append_left _ (List.mem_append_left _ (List.mem_append_left _ (List.mem_append_left _ (List.mem_append_left _ (List.mem_append_right _ h)))))
theorem inX3 : ∀ w ∈ wsX30, w ∈ lw_tbl := fun w h => wsL_law_in w (inlX3 w h)
theorem inlX4 : ∀ w ∈ wsX40, w ∈ wsL_law := fun _ h => List.mem_append_left _ (List.mem_append_left _ (List.mem_append_left _ (List.mem_append_left _ (List.mem_append_left _ (List.mem_append_left _ (List.mem_append_left _ (List.mem_append_left _ (List.mem_append_right _ h))))))))
theorem inX4 : ∀ w ∈ wsX40, w ∈ lw_tbl := fun w h => wsL_law_in w (inlX4 w h)
theorem inlX5 : ∀ w ∈ wsX50, w ∈ wsL_law := fun _ h => List.mem_append_left _ (List.mem_append_left _ (List.mem_append_left _ (List.mem_append_left _ (List.mem_append_left _ (List.mem_append_left _ (List.mem_append_left _ (List.mem_append_left _ (List.mem_append_left _ (List.mem_append_left _ (List.mem_append_right _ h))))))))))
theorem inX5 : ∀ w ∈ wsX50, w ∈ lw_tbl := fun w h => wsL_law_in w (inlX5 w h)
theorem inlX6 : ∀ w ∈ wsX60, w ∈ wsL_law := fun _ h => List.mem_append_left _ (List.mem_append_left _ (List.mem_append_left _ (List.mem_append_left _ (List.mem_append_left _ (List.mem_append_left _ (List.mem_append_left _ (List.mem_append_left _ (List.mem_append_left _ (List.mem_append_right _ h)))))))))
theorem inX6 : ∀ w ∈ wsX60, w ∈ lw_tbl := fun w h => wsL_law_in w (inlX6 w h)
theorem inJ9 : ∀ w ∈ wsJ90, w ∈ lw_tbl := by decide +kernel
theorem inJ0 : ∀ w ∈ wsJ00, w ∈ lw_tbl := by decide +kernel
end
section
theorem dX0_init_0 : decode cX0_init 0 = .ok (.aload_n 0, 1) := by decide +kernel
theorem dX0_init_1 : decode cX0_init 1 = .ok (.invokespecial 3, 3) := by decide +kernel
theorem dX0_init_4 : decode cX0_init 4 = .ok (.aload_n 0, 1) := by decide +kernel
theorem dX0_init_5 : decode cX0_init 5 = .ok (.bipush 80, 2) := by decide +kernel
theorem dX0_init_7 : decode cX0_init 7 = .ok (.newarray .int, 2) := by decide +kernel
theorem dX0_init_9 : decode cX0_init 9 = .ok (.putfield 9, 3) := by decide +kernel
theorem dX0_init_12 : decode cX0_init 12 = .ok (.aload_n 0, 1) := by decide +kernel
theorem dX0_init_13 : decode cX0_init 13 = .ok (.bipush 80, 2) := by decide +kernel
theorem dX0_init_15 : decode cX0_init 15 = .ok (.newarray .int, 2) := by decide +kernel
theorem dX0_init_17 : decode cX0_init 17 = .ok (.putfield 15, 3) := by decide +kernel
theorem dX0_init_20 : decode cX0_init 20 = .ok (.aload_n 0, 1) := by decide +kernel
theorem dX0_init_21 : decode cX0_init 21 = .ok (.bipush 80, 2) := by decide +kernel
theorem dX0_init_23 : decode cX0_init 23 = .ok (.newarray .int, 2) := by decide +kernel
theorem dX0_init_25 : decode cX0_init 25 = .ok (.putfield 18, 3) := by decide +kernel
theorem dX0_init_28 : decode cX0_init 28 = .ok (.aload_n 0, 1) := by decide +kernel
theorem dX0_init_29 : decode cX0_init 29 = .ok (.bipush 80, 2) := by decide +kernel
theorem dX0_init_31 : decode cX0_init 31 = .ok (.newarray .int, 2) := by decide +kernel
theorem dX0_init_33 : decode cX0_init 33 = .ok (.putfield 21, 3) := by decide +kernel
theorem dX0_init_36 : decode cX0_init 36 = .ok (.aload_n 0, 1) := by decide +kernel
theorem dX0_init_37 : decode cX0_init 37 = .ok (.bipush 80, 2) := by decide +kernel
theorem dX0_init_39 : decode cX0_init 39 = .ok (.newarray .boolean, 2) := by decide +kernel
theorem dX0_init_41 : decode cX0_init 41 = .ok (.putfield 24, 3) := by decide +kernel
theorem dX0_init_44 : decode cX0_init 44 = .ok (.aload_n 0, 1) := by decide +kernel
theorem dX0_init_45 : decode cX0_init 45 = .ok (.bipush 80, 2) := by decide +kernel
theorem dX0_init_47 : decode cX0_init 47 = .ok (.newarray .int, 2) := by decide +kernel
theorem dX0_init_49 : decode cX0_init 49 = .ok (.putfield 28, 3) := by decide +kernel
theorem dX0_init_52 : decode cX0_init 52 = .ok (.aload_n 0, 1) := by decide +kernel
theorem dX0_init_53 : decode cX0_init 53 = .ok (.iconst 0, 1) := by decide +kernel
theorem dX0_init_54 : decode cX0_init 54 = .ok (.putfield 31, 3) := by decide +kernel
theorem dX0_init_57 : decode cX0_init 57 = .ok (.return_, 1) := by decide +kernel
theorem dX0_isFull_0 : decode cX0_isFull 0 = .ok (.aload_n 0, 1) := by decide +kernel
theorem dX0_isFull_1 : decode cX0_isFull 1 = .ok (.getfield 31, 3) := by decide +kernel
theorem dX0_isFull_4 : decode cX0_isFull 4 = .ok (.bipush 80, 2) := by decide +kernel
theorem dX0_isFull_6 : decode cX0_isFull 6 = .ok (.if_icmp .lt 7, 3) := by decide +kernel
theorem dX0_isFull_9 : decode cX0_isFull 9 = .ok (.iconst 1, 1) := by decide +kernel
theorem dX0_isFull_10 : decode cX0_isFull 10 = .ok (.goto 4, 3) := by decide +kernel
theorem dX0_isFull_13 : decode cX0_isFull 13 = .ok (.iconst 0, 1) := by decide +kernel
theorem dX0_isFull_14 : decode cX0_isFull 14 = .ok (.ireturn, 1) := by decide +kernel
theorem dX0_add_0 : decode cX0_add 0 = .ok (.aload_n 0, 1) := by decide +kernel
theorem dX0_add_1 : decode cX0_add 1 = .ok (.getfield 31, 3) := by decide +kernel
theorem dX0_add_4 : decode cX0_add 4 = .ok (.istore 5, 2) := by decide +kernel
theorem dX0_add_6 : decode cX0_add 6 = .ok (.aload_n 0, 1) := by decide +kernel
theorem dX0_add_7 : decode cX0_add 7 = .ok (.getfield 9, 3) := by decide +kernel
theorem dX0_add_10 : decode cX0_add 10 = .ok (.iload 5, 2) := by decide +kernel
theorem dX0_add_12 : decode cX0_add 12 = .ok (.iload_n 1, 1) := by decide +kernel
theorem dX0_add_13 : decode cX0_add 13 = .ok (.iastore, 1) := by decide +kernel
theorem dX0_add_14 : decode cX0_add 14 = .ok (.aload_n 0, 1) := by decide +kernel
theorem dX0_add_15 : decode cX0_add 15 = .ok (.getfield 15, 3) := by decide +kernel
theorem dX0_add_18 : decode cX0_add 18 = .ok (.iload 5, 2) := by decide +kernel
theorem dX0_add_20 : decode cX0_add 20 = .ok (.iload_n 2, 1) := by decide +kernel
theorem dX0_add_21 : decode cX0_add 21 = .ok (.iastore, 1) := by decide +kernel
theorem dX0_add_22 : decode cX0_add 22 = .ok (.aload_n 0, 1) := by decide +kernel
theorem dX0_add_23 : decode cX0_add 23 = .ok (.getfield 18, 3) := by decide +kernel
theorem dX0_add_26 : decode cX0_add 26 = .ok (.iload 5, 2) := by decide +kernel
theorem dX0_add_28 : decode cX0_add 28 = .ok (.iload_n 3, 1) := by decide +kernel
theorem dX0_add_29 : decode cX0_add 29 = .ok (.iastore, 1) := by decide +kernel
theorem dX0_add_30 : decode cX0_add 30 = .ok (.aload_n 0, 1) := by decide +kernel
theorem dX0_add_31 : decode cX0_add 31 = .ok (.getfield 21, 3) := by decide +kernel
theorem dX0_add_34 : decode cX0_add 34 = .ok (.iload 5, 2) := by decide +kernel
theorem dX0_add_36 : decode cX0_add 36 = .ok (.iload 4, 2) := by decide +kernel
theorem dX0_add_38 : decode cX0_add 38 = .ok (.iastore, 1) := by decide +kernel
theorem dX0_add_39 : decode cX0_add 39 = .ok (.aload_n 0, 1) := by decide +kernel
theorem dX0_add_40 : decode cX0_add 40 = .ok (.getfield 28, 3) := by decide +kernel
theorem dX0_add_43 : decode cX0_add 43 = .ok (.iload 5, 2) := by decide +kernel
theorem dX0_add_45 : decode cX0_add 45 = .ok (.iconst (-1), 1) := by decide +kernel
theorem dX0_add_46 : decode cX0_add 46 = .ok (.iastore, 1) := by decide +kernel
theorem dX0_add_47 : decode cX0_add 47 = .ok (.aload_n 0, 1) := by decide +kernel
theorem dX0_add_48 : decode cX0_add 48 = .ok (.dup, 1) := by decide +kernel
theorem dX0_add_49 : decode cX0_add 49 = .ok (.getfield 31, 3) := by decide +kernel
theorem dX0_add_52 : decode cX0_add 52 = .ok (.iconst 1, 1) := by decide +kernel
theorem dX0_add_53 : decode cX0_add 53 = .ok (.iadd, 1) := by decide +kernel
theorem dX0_add_54 : decode cX0_add 54 = .ok (.putfield 31, 3) := by decide +kernel
theorem dX0_add_57 : decode cX0_add 57 = .ok (.iload 5, 2) := by decide +kernel
theorem dX0_add_59 : decode cX0_add 59 = .ok (.ireturn, 1) := by decide +kernel
theorem dX0_arrive_0 : decode cX0_arrive 0 = .ok (.aload_n 0, 1) := by decide +kernel
theorem dX0_arrive_1 : decode cX0_arrive 1 = .ok (.getfield 24, 3) := by decide +kernel
theorem dX0_arrive_4 : decode cX0_arrive 4 = .ok (.iload_n 1, 1) := by decide +kernel
theorem dX0_arrive_5 : decode cX0_arrive 5 = .ok (.iconst 1, 1) := by decide +kernel
theorem dX0_arrive_6 : decode cX0_arrive 6 = .ok (.bastore, 1) := by decide +kernel
theorem dX0_arrive_7 : decode cX0_arrive 7 = .ok (.aload_n 0, 1) := by decide +kernel
theorem dX0_arrive_8 : decode cX0_arrive 8 = .ok (.getfield 28, 3) := by decide +kernel
theorem dX0_arrive_11 : decode cX0_arrive 11 = .ok (.iload_n 1, 1) := by decide +kernel
theorem dX0_arrive_12 : decode cX0_arrive 12 = .ok (.iload_n 2, 1) := by decide +kernel
theorem dX0_arrive_13 : decode cX0_arrive 13 = .ok (.iastore, 1) := by decide +kernel
theorem dX0_arrive_14 : decode cX0_arrive 14 = .ok (.return_, 1) := by decide +kernel
theorem dX0_countFor_0 : decode cX0_countFor 0 = .ok (.iconst 0, 1) := by decide +kernel
theorem dX0_countFor_1 : decode cX0_countFor 1 = .ok (.istore 4, 2) := by decide +kernel
theorem dX0_countFor_3 : decode cX0_countFor 3 = .ok (.iconst 0, 1) := by decide +kernel
theorem dX0_countFor_4 : decode cX0_countFor 4 = .ok (.istore 5, 2) := by decide +kernel
theorem dX0_countFor_6 : decode cX0_countFor 6 = .ok (.iload 5, 2) := by decide +kernel
theorem dX0_countFor_8 : decode cX0_countFor 8 = .ok (.aload_n 0, 1) := by decide +kernel
theorem dX0_countFor_9 : decode cX0_countFor 9 = .ok (.getfield 31, 3) := by decide +kernel
theorem dX0_countFor_12 : decode cX0_countFor 12 = .ok (.if_icmp .ge 45, 3) := by decide +kernel
theorem dX0_countFor_15 : decode cX0_countFor 15 = .ok (.aload_n 0, 1) := by decide +kernel
theorem dX0_countFor_16 : decode cX0_countFor 16 = .ok (.getfield 15, 3) := by decide +kernel
theorem dX0_countFor_19 : decode cX0_countFor 19 = .ok (.iload 5, 2) := by decide +kernel
theorem dX0_countFor_21 : decode cX0_countFor 21 = .ok (.iaload, 1) := by decide +kernel
theorem dX0_countFor_22 : decode cX0_countFor 22 = .ok (.iload_n 1, 1) := by decide +kernel
theorem dX0_countFor_23 : decode cX0_countFor 23 = .ok (.if_icmp .ne 28, 3) := by decide +kernel
theorem dX0_countFor_26 : decode cX0_countFor 26 = .ok (.aload_n 0, 1) := by decide +kernel
theorem dX0_countFor_27 : decode cX0_countFor 27 = .ok (.getfield 18, 3) := by decide +kernel
theorem dX0_countFor_30 : decode cX0_countFor 30 = .ok (.iload 5, 2) := by decide +kernel
theorem dX0_countFor_32 : decode cX0_countFor 32 = .ok (.iaload, 1) := by decide +kernel
theorem dX0_countFor_33 : decode cX0_countFor 33 = .ok (.iload_n 2, 1) := by decide +kernel
theorem dX0_countFor_34 : decode cX0_countFor 34 = .ok (.if_icmp .ne 17, 3) := by decide +kernel
theorem dX0_countFor_37 : decode cX0_countFor 37 = .ok (.aload_n 0, 1) := by decide +kernel
theorem dX0_countFor_38 : decode cX0_countFor 38 = .ok (.getfield 21, 3) := by decide +kernel
theorem dX0_countFor_41 : decode cX0_countFor 41 = .ok (.iload 5, 2) := by decide +kernel
theorem dX0_countFor_43 : decode cX0_countFor 43 = .ok (.iaload, 1) := by decide +kernel
theorem dX0_countFor_44 : decode cX0_countFor 44 = .ok (.iload_n 3, 1) := by decide +kernel
theorem dX0_countFor_45 : decode cX0_countFor 45 = .ok (.if_icmp .ne 6, 3) := by decide +kernel
theorem dX0_countFor_48 : decode cX0_countFor 48 = .ok (.iinc 4 1, 3) := by decide +kernel
theorem dX0_countFor_51 : decode cX0_countFor 51 = .ok (.iinc 5 1, 3) := by decide +kernel
theorem dX0_countFor_54 : decode cX0_countFor 54 = .ok (.goto (-48), 3) := by decide +kernel
theorem dX0_countFor_57 : decode cX0_countFor 57 = .ok (.iload 4, 2) := by decide +kernel
theorem dX0_countFor_59 : decode cX0_countFor 59 = .ok (.ireturn, 1) := by decide +kernel
theorem dX0_missedIn_0 : decode cX0_missedIn 0 = .ok (.iconst 0, 1) := by decide +kernel
theorem dX0_missedIn_1 : decode cX0_missedIn 1 = .ok (.istore_n 2, 1) := by decide +kernel
theorem dX0_missedIn_2 : decode cX0_missedIn 2 = .ok (.iconst 0, 1) := by decide +kernel
theorem dX0_missedIn_3 : decode cX0_missedIn 3 = .ok (.istore_n 3, 1) := by decide +kernel
theorem dX0_missedIn_4 : decode cX0_missedIn 4 = .ok (.iload_n 3, 1) := by decide +kernel
theorem dX0_missedIn_5 : decode cX0_missedIn 5 = .ok (.aload_n 0, 1) := by decide +kernel
theorem dX0_missedIn_6 : decode cX0_missedIn 6 = .ok (.getfield 31, 3) := by decide +kernel
theorem dX0_missedIn_9 : decode cX0_missedIn 9 = .ok (.if_icmp .ge 31, 3) := by decide +kernel
theorem dX0_missedIn_12 : decode cX0_missedIn 12 = .ok (.aload_n 0, 1) := by decide +kernel
theorem dX0_missedIn_13 : decode cX0_missedIn 13 = .ok (.getfield 21, 3) := by decide +kernel
theorem dX0_missedIn_16 : decode cX0_missedIn 16 = .ok (.iload_n 3, 1) := by decide +kernel
theorem dX0_missedIn_17 : decode cX0_missedIn 17 = .ok (.iaload, 1) := by decide +kernel
theorem dX0_missedIn_18 : decode cX0_missedIn 18 = .ok (.iload_n 1, 1) := by decide +kernel
theorem dX0_missedIn_19 : decode cX0_missedIn 19 = .ok (.if_icmp .ne 15, 3) := by decide +kernel
theorem dX0_missedIn_22 : decode cX0_missedIn 22 = .ok (.aload_n 0, 1) := by decide +kernel
theorem dX0_missedIn_23 : decode cX0_missedIn 23 = .ok (.getfield 24, 3) := by decide +kernel
theorem dX0_missedIn_26 : decode cX0_missedIn 26 = .ok (.iload_n 3, 1) := by decide +kernel
theorem dX0_missedIn_27 : decode cX0_missedIn 27 = .ok (.baload, 1) := by decide +kernel
theorem dX0_missedIn_28 : decode cX0_missedIn 28 = .ok (.ifCond .ne 6, 3) := by decide +kernel
theorem dX0_missedIn_31 : decode cX0_missedIn 31 = .ok (.iinc 2 1, 3) := by decide +kernel
theorem dX0_missedIn_34 : decode cX0_missedIn 34 = .ok (.iinc 3 1, 3) := by decide +kernel
theorem dX0_missedIn_37 : decode cX0_missedIn 37 = .ok (.goto (-33), 3) := by decide +kernel
theorem dX0_missedIn_40 : decode cX0_missedIn 40 = .ok (.iload_n 2, 1) := by decide +kernel
theorem dX0_missedIn_41 : decode cX0_missedIn 41 = .ok (.ireturn, 1) := by decide +kernel
theorem dX0_missedAt_0 : decode cX0_missedAt 0 = .ok (.iconst 0, 1) := by decide +kernel
theorem dX0_missedAt_1 : decode cX0_missedAt 1 = .ok (.istore 4, 2) := by decide +kernel
theorem dX0_missedAt_3 : decode cX0_missedAt 3 = .ok (.iconst 0, 1) := by decide +kernel
theorem dX0_missedAt_4 : decode cX0_missedAt 4 = .ok (.istore 5, 2) := by decide +kernel
theorem dX0_missedAt_6 : decode cX0_missedAt 6 = .ok (.iload 5, 2) := by decide +kernel
theorem dX0_missedAt_8 : decode cX0_missedAt 8 = .ok (.aload_n 0, 1) := by decide +kernel
theorem dX0_missedAt_9 : decode cX0_missedAt 9 = .ok (.getfield 31, 3) := by decide +kernel
theorem dX0_missedAt_12 : decode cX0_missedAt 12 = .ok (.if_icmp .ge 55, 3) := by decide +kernel
theorem dX0_missedAt_15 : decode cX0_missedAt 15 = .ok (.aload_n 0, 1) := by decide +kernel
theorem dX0_missedAt_16 : decode cX0_missedAt 16 = .ok (.getfield 15, 3) := by decide +kernel
theorem dX0_missedAt_19 : decode cX0_missedAt 19 = .ok (.iload 5, 2) := by decide +kernel
theorem dX0_missedAt_21 : decode cX0_missedAt 21 = .ok (.iaload, 1) := by decide +kernel
theorem dX0_missedAt_22 : decode cX0_missedAt 22 = .ok (.iload_n 1, 1) := by decide +kernel
theorem dX0_missedAt_23 : decode cX0_missedAt 23 = .ok (.if_icmp .ne 38, 3) := by decide +kernel
theorem dX0_missedAt_26 : decode cX0_missedAt 26 = .ok (.aload_n 0, 1) := by decide +kernel
theorem dX0_missedAt_27 : decode cX0_missedAt 27 = .ok (.getfield 21, 3) := by decide +kernel
theorem dX0_missedAt_30 : decode cX0_missedAt 30 = .ok (.iload 5, 2) := by decide +kernel
theorem dX0_missedAt_32 : decode cX0_missedAt 32 = .ok (.iaload, 1) := by decide +kernel
theorem dX0_missedAt_33 : decode cX0_missedAt 33 = .ok (.iload_n 2, 1) := by decide +kernel
theorem dX0_missedAt_34 : decode cX0_missedAt 34 = .ok (.if_icmp .lt 27, 3) := by decide +kernel
theorem dX0_missedAt_37 : decode cX0_missedAt 37 = .ok (.aload_n 0, 1) := by decide +kernel
theorem dX0_missedAt_38 : decode cX0_missedAt 38 = .ok (.getfield 21, 3) := by decide +kernel
theorem dX0_missedAt_41 : decode cX0_missedAt 41 = .ok (.iload 5, 2) := by decide +kernel
theorem dX0_missedAt_43 : decode cX0_missedAt 43 = .ok (.iaload, 1) := by decide +kernel
theorem dX0_missedAt_44 : decode cX0_missedAt 44 = .ok (.iload_n 3, 1) := by decide +kernel
theorem dX0_missedAt_45 : decode cX0_missedAt 45 = .ok (.if_icmp .ge 16, 3) := by decide +kernel
theorem dX0_missedAt_48 : decode cX0_missedAt 48 = .ok (.aload_n 0, 1) := by decide +kernel
theorem dX0_missedAt_49 : decode cX0_missedAt 49 = .ok (.getfield 24, 3) := by decide +kernel
theorem dX0_missedAt_52 : decode cX0_missedAt 52 = .ok (.iload 5, 2) := by decide +kernel
theorem dX0_missedAt_54 : decode cX0_missedAt 54 = .ok (.baload, 1) := by decide +kernel
theorem dX0_missedAt_55 : decode cX0_missedAt 55 = .ok (.ifCond .ne 6, 3) := by decide +kernel
theorem dX0_missedAt_58 : decode cX0_missedAt 58 = .ok (.iinc 4 1, 3) := by decide +kernel
theorem dX0_missedAt_61 : decode cX0_missedAt 61 = .ok (.iinc 5 1, 3) := by decide +kernel
theorem dX0_missedAt_64 : decode cX0_missedAt 64 = .ok (.goto (-58), 3) := by decide +kernel
theorem dX0_missedAt_67 : decode cX0_missedAt 67 = .ok (.iload 4, 2) := by decide +kernel
theorem dX0_missedAt_69 : decode cX0_missedAt 69 = .ok (.ireturn, 1) := by decide +kernel
theorem dX0_sleepersAt_0 : decode cX0_sleepersAt 0 = .ok (.iconst 0, 1) := by decide +kernel
theorem dX0_sleepersAt_1 : decode cX0_sleepersAt 1 = .ok (.istore 4, 2) := by decide +kernel
theorem dX0_sleepersAt_3 : decode cX0_sleepersAt 3 = .ok (.iconst 0, 1) := by decide +kernel
theorem dX0_sleepersAt_4 : decode cX0_sleepersAt 4 = .ok (.istore 5, 2) := by decide +kernel
theorem dX0_sleepersAt_6 : decode cX0_sleepersAt 6 = .ok (.iload 5, 2) := by decide +kernel
theorem dX0_sleepersAt_8 : decode cX0_sleepersAt 8 = .ok (.aload_n 0, 1) := by decide +kernel
theorem dX0_sleepersAt_9 : decode cX0_sleepersAt 9 = .ok (.getfield 31, 3) := by decide +kernel
theorem dX0_sleepersAt_12 : decode cX0_sleepersAt 12 = .ok (.if_icmp .ge 45, 3) := by decide +kernel
theorem dX0_sleepersAt_15 : decode cX0_sleepersAt 15 = .ok (.aload_n 0, 1) := by decide +kernel
theorem dX0_sleepersAt_16 : decode cX0_sleepersAt 16 = .ok (.getfield 28, 3) := by decide +kernel
theorem dX0_sleepersAt_19 : decode cX0_sleepersAt 19 = .ok (.iload 5, 2) := by decide +kernel
theorem dX0_sleepersAt_21 : decode cX0_sleepersAt 21 = .ok (.iaload, 1) := by decide +kernel
theorem dX0_sleepersAt_22 : decode cX0_sleepersAt 22 = .ok (.iload_n 1, 1) := by decide +kernel
theorem dX0_sleepersAt_23 : decode cX0_sleepersAt 23 = .ok (.if_icmp .ne 28, 3) := by decide +kernel
theorem dX0_sleepersAt_26 : decode cX0_sleepersAt 26 = .ok (.aload_n 0, 1) := by decide +kernel
theorem dX0_sleepersAt_27 : decode cX0_sleepersAt 27 = .ok (.getfield 18, 3) := by decide +kernel
theorem dX0_sleepersAt_30 : decode cX0_sleepersAt 30 = .ok (.iload 5, 2) := by decide +kernel
theorem dX0_sleepersAt_32 : decode cX0_sleepersAt 32 = .ok (.iaload, 1) := by decide +kernel
theorem dX0_sleepersAt_33 : decode cX0_sleepersAt 33 = .ok (.iload_n 2, 1) := by decide +kernel
theorem dX0_sleepersAt_34 : decode cX0_sleepersAt 34 = .ok (.if_icmp .ne 17, 3) := by decide +kernel
theorem dX0_sleepersAt_37 : decode cX0_sleepersAt 37 = .ok (.aload_n 0, 1) := by decide +kernel
theorem dX0_sleepersAt_38 : decode cX0_sleepersAt 38 = .ok (.getfield 21, 3) := by decide +kernel
theorem dX0_sleepersAt_41 : decode cX0_sleepersAt 41 = .ok (.iload 5, 2) := by decide +kernel
theorem dX0_sleepersAt_43 : decode cX0_sleepersAt 43 = .ok (.iaload, 1) := by decide +kernel
theorem dX0_sleepersAt_44 : decode cX0_sleepersAt 44 = .ok (.iload_n 3, 1) := by decide +kernel
theorem dX0_sleepersAt_45 : decode cX0_sleepersAt 45 = .ok (.if_icmp .ne 6, 3) := by decide +kernel
theorem dX0_sleepersAt_48 : decode cX0_sleepersAt 48 = .ok (.iinc 4 1, 3) := by decide +kernel
theorem dX0_sleepersAt_51 : decode cX0_sleepersAt 51 = .ok (.iinc 5 1, 3) := by decide +kernel
theorem dX0_sleepersAt_54 : decode cX0_sleepersAt 54 = .ok (.goto (-48), 3) := by decide +kernel
theorem dX0_sleepersAt_57 : decode cX0_sleepersAt 57 = .ok (.iload 4, 2) := by decide +kernel
theorem dX0_sleepersAt_59 : decode cX0_sleepersAt 59 = .ok (.ireturn, 1) := by decide +kernel
theorem dX1_init_0 : decode cX1_init 0 = .ok (.aload_n 0, 1) := by decide +kernel
theorem dX1_init_1 : decode cX1_init 1 = .ok (.invokespecial 3, 3) := by decide +kernel
theorem dX1_init_4 : decode cX1_init 4 = .ok (.aload_n 0, 1) := by decide +kernel
theorem dX1_init_5 : decode cX1_init 5 = .ok (.iconst 4, 1) := by decide +kernel
theorem dX1_init_6 : decode cX1_init 6 = .ok (.newarray .int, 2) := by decide +kernel
theorem dX1_init_8 : decode cX1_init 8 = .ok (.putfield 9, 3) := by decide +kernel
theorem dX1_init_11 : decode cX1_init 11 = .ok (.aload_n 0, 1) := by decide +kernel
theorem dX1_init_12 : decode cX1_init 12 = .ok (.bipush 16, 2) := by decide +kernel
theorem dX1_init_14 : decode cX1_init 14 = .ok (.newarray .int, 2) := by decide +kernel
theorem dX1_init_16 : decode cX1_init 16 = .ok (.putfield 15, 3) := by decide +kernel
theorem dX1_init_19 : decode cX1_init 19 = .ok (.return_, 1) := by decide +kernel
theorem dX1_row_0 : decode cX1_row 0 = .ok (.iload_n 0, 1) := by decide +kernel
theorem dX1_row_1 : decode cX1_row 1 = .ok (.iconst 4, 1) := by decide +kernel
theorem dX1_row_2 : decode cX1_row 2 = .ok (.imul, 1) := by decide +kernel
theorem dX1_row_3 : decode cX1_row 3 = .ok (.iload_n 1, 1) := by decide +kernel
theorem dX1_row_4 : decode cX1_row 4 = .ok (.iadd, 1) := by decide +kernel
theorem dX1_row_5 : decode cX1_row 5 = .ok (.ireturn, 1) := by decide +kernel
theorem dX1_receive_0 : decode cX1_receive 0 = .ok (.aload_n 0, 1) := by decide +kernel
theorem dX1_receive_1 : decode cX1_receive 1 = .ok (.getfield 9, 3) := by decide +kernel
theorem dX1_receive_4 : decode cX1_receive 4 = .ok (.iload_n 1, 1) := by decide +kernel
theorem dX1_receive_5 : decode cX1_receive 5 = .ok (.dup2, 1) := by decide +kernel
theorem dX1_receive_6 : decode cX1_receive 6 = .ok (.iaload, 1) := by decide +kernel
theorem dX1_receive_7 : decode cX1_receive 7 = .ok (.iload_n 2, 1) := by decide +kernel
theorem dX1_receive_8 : decode cX1_receive 8 = .ok (.iadd, 1) := by decide +kernel
theorem dX1_receive_9 : decode cX1_receive 9 = .ok (.iastore, 1) := by decide +kernel
theorem dX1_receive_10 : decode cX1_receive 10 = .ok (.return_, 1) := by decide +kernel
set_option maxRecDepth 20000 in
theorem ggX1_owe_X1_row : GoodIn wsX1_owe wsX1_row := goodIn_r _ [5] (by decide +kernel) (by decide +kernel)
set_option maxRecDepth 20000 in
theorem gX1_owe_X1_row : GoodIn wsX1_owe (va_wsS RX1 18 yX1_row wsX1_row) := goodIn_app (goodIn_of _ (by decide +kernel)) ggX1_owe_X1_row
theorem dX1_owe_0 : decode cX1_owe 0 = .ok (.aload_n 0, 1) := by decide +kernel
theorem dX1_owe_1 : decode cX1_owe 1 = .ok (.getfield 15, 3) := by decide +kernel
theorem dX1_owe_4 : decode cX1_owe 4 = .ok (.iload_n 1, 1) := by decide +kernel
theorem dX1_owe_5 : decode cX1_owe 5 = .ok (.iload_n 2, 1) := by decide +kernel
theorem dX1_owe_6 : decode cX1_owe 6 = .ok (.invokestatic 18, 3) := by decide +kernel
theorem dX1_owe_9 : decode cX1_owe 9 = .ok (.dup2, 1) := by decide +kernel
theorem dX1_owe_10 : decode cX1_owe 10 = .ok (.iaload, 1) := by decide +kernel
theorem dX1_owe_11 : decode cX1_owe 11 = .ok (.iload_n 3, 1) := by decide +kernel
theorem dX1_owe_12 : decode cX1_owe 12 = .ok (.iadd, 1) := by decide +kernel
theorem dX1_owe_13 : decode cX1_owe 13 = .ok (.iastore, 1) := by decide +kernel
theorem dX1_owe_14 : decode cX1_owe 14 = .ok (.aload_n 0, 1) := by decide +kernel
theorem dX1_owe_15 : decode cX1_owe 15 = .ok (.getfield 15, 3) := by decide +kernel
theorem dX1_owe_18 : decode cX1_owe 18 = .ok (.iload_n 2, 1) := by decide +kernel
theorem dX1_owe_19 : decode cX1_owe 19 = .ok (.iload_n 1, 1) := by decide +kernel
theorem dX1_owe_20 : decode cX1_owe 20 = .ok (.invokestatic 18, 3) := by decide +kernel
theorem dX1_owe_23 : decode cX1_owe 23 = .ok (.dup2, 1) := by decide +kernel
theorem dX1_owe_24 : decode cX1_owe 24 = .ok (.iaload, 1) := by decide +kernel
theorem dX1_owe_25 : decode cX1_owe 25 = .ok (.iload_n 3, 1) := by decide +kernel
theorem dX1_owe_26 : decode cX1_owe 26 = .ok (.isub, 1) := by decide +kernel
theorem dX1_owe_27 : decode cX1_owe 27 = .ok (.iastore, 1) := by decide +kernel
theorem dX1_owe_28 : decode cX1_owe 28 = .ok (.return_, 1) := by decide +kernel
set_option maxRecDepth 20000 in
theorem ggX1_between_X1_row : GoodIn wsX1_between wsX1_row := goodIn_r _ [9] (by decide +kernel) (by decide +kernel)
set_option maxRecDepth 20000 in
theorem gX1_between_X1_row : GoodIn wsX1_between (va_wsS RX1 18 yX1_row wsX1_row) := goodIn_app (goodIn_of _ (by decide +kernel)) ggX1_between_X1_row
theorem dX1_between_0 : decode cX1_between 0 = .ok (.iconst 0, 1) := by decide +kernel
theorem dX1_between_1 : decode cX1_between 1 = .ok (.aload_n 0, 1) := by decide +kernel
theorem dX1_between_2 : decode cX1_between 2 = .ok (.getfield 15, 3) := by decide +kernel
theorem dX1_between_5 : decode cX1_between 5 = .ok (.iload_n 1, 1) := by decide +kernel
theorem dX1_between_6 : decode cX1_between 6 = .ok (.iload_n 2, 1) := by decide +kernel
theorem dX1_between_7 : decode cX1_between 7 = .ok (.invokestatic 18, 3) := by decide +kernel
theorem dX1_between_10 : decode cX1_between 10 = .ok (.iaload, 1) := by decide +kernel
theorem dX1_between_11 : decode cX1_between 11 = .ok (.invokestatic 22, 3) := by decide +kernel
theorem dX1_between_14 : decode cX1_between 14 = .ok (.ireturn, 1) := by decide +kernel
set_option maxRecDepth 20000 in
theorem ggX1_payAll_X1_pay : GoodIn wsX1_payAll wsX1_pay := goodIn_r _ [5, 6, 7, 8, 9, 4, 10, 11, 12, 13, 14, 15, 16, 17, 18, 19, 20, 21, 22, 23, 24] (by decide +kernel) (by decide +kernel)
set_option maxRecDepth 20000 in
theorem gX1_payAll_X1_pay : GoodIn wsX1_payAll (wsV RX1 27 RX1 yX1_pay wsX1_pay) := goodIn_app (goodIn_of _ (by decide +kernel)) ggX1_payAll_X1_pay
theorem dX1_payAll_0 : decode cX1_payAll 0 = .ok (.iconst 0, 1) := by decide +kernel
theorem dX1_payAll_1 : decode cX1_payAll 1 = .ok (.istore_n 1, 1) := by decide +kernel
theorem dX1_payAll_2 : decode cX1_payAll 2 = .ok (.iconst 0, 1) := by decide +kernel
theorem dX1_payAll_3 : decode cX1_payAll 3 = .ok (.istore_n 2, 1) := by decide +kernel
theorem dX1_payAll_4 : decode cX1_payAll 4 = .ok (.iload_n 2, 1) := by decide +kernel
theorem dX1_payAll_5 : decode cX1_payAll 5 = .ok (.iconst 4, 1) := by decide +kernel
theorem dX1_payAll_6 : decode cX1_payAll 6 = .ok (.if_icmp .ge 31, 3) := by decide +kernel
theorem dX1_payAll_9 : decode cX1_payAll 9 = .ok (.iconst 0, 1) := by decide +kernel
theorem dX1_payAll_10 : decode cX1_payAll 10 = .ok (.istore_n 3, 1) := by decide +kernel
theorem dX1_payAll_11 : decode cX1_payAll 11 = .ok (.iload_n 3, 1) := by decide +kernel
theorem dX1_payAll_12 : decode cX1_payAll 12 = .ok (.iconst 4, 1) := by decide +kernel
theorem dX1_payAll_13 : decode cX1_payAll 13 = .ok (.if_icmp .ge 18, 3) := by decide +kernel
theorem dX1_payAll_16 : decode cX1_payAll 16 = .ok (.iload_n 1, 1) := by decide +kernel
theorem dX1_payAll_17 : decode cX1_payAll 17 = .ok (.aload_n 0, 1) := by decide +kernel
theorem dX1_payAll_18 : decode cX1_payAll 18 = .ok (.iload_n 2, 1) := by decide +kernel
theorem dX1_payAll_19 : decode cX1_payAll 19 = .ok (.iload_n 3, 1) := by decide +kernel
theorem dX1_payAll_20 : decode cX1_payAll 20 = .ok (.invokevirtual 27, 3) := by decide +kernel
theorem dX1_payAll_23 : decode cX1_payAll 23 = .ok (.iadd, 1) := by decide +kernel
theorem dX1_payAll_24 : decode cX1_payAll 24 = .ok (.istore_n 1, 1) := by decide +kernel
theorem dX1_payAll_25 : decode cX1_payAll 25 = .ok (.iinc 3 1, 3) := by decide +kernel
theorem dX1_payAll_28 : decode cX1_payAll 28 = .ok (.goto (-17), 3) := by decide +kernel
theorem dX1_payAll_31 : decode cX1_payAll 31 = .ok (.iinc 2 1, 3) := by decide +kernel
theorem dX1_payAll_34 : decode cX1_payAll 34 = .ok (.goto (-30), 3) := by decide +kernel
theorem dX1_payAll_37 : decode cX1_payAll 37 = .ok (.iload_n 1, 1) := by decide +kernel
theorem dX1_payAll_38 : decode cX1_payAll 38 = .ok (.ireturn, 1) := by decide +kernel
set_option maxRecDepth 20000 in
theorem ggX1_pay_X1_between : GoodIn wsX1_pay wsX1_between := goodIn_r _ [6, 7, 8, 9, 10, 11, 12, 13, 5, 14, 19, 20] (by decide +kernel) (by decide +kernel)
set_option maxRecDepth 20000 in
theorem gX1_pay_X1_between : GoodIn wsX1_pay (wsV RX1 30 RX1 yX1_between wsX1_between) := goodIn_app (goodIn_of _ (by decide +kernel)) ggX1_pay_X1_between
set_option maxRecDepth 20000 in
theorem ggX1_pay_X1_owe : GoodIn wsX1_pay wsX1_owe := goodIn_r _ [18, 7, 12, 13, 5, 14, 19, 20] (by decide +kernel) (by decide +kernel)
set_option maxRecDepth 20000 in
theorem gX1_pay_X1_owe : GoodIn wsX1_pay (wsV RX1 33 RX1 yX1_owe wsX1_owe) := goodIn_app (goodIn_of _ (by decide +kernel)) ggX1_pay_X1_owe
theorem dX1_pay_0 : decode cX1_pay 0 = .ok (.aload_n 0, 1) := by decide +kernel
theorem dX1_pay_1 : decode cX1_pay 1 = .ok (.iload_n 1, 1) := by decide +kernel
theorem dX1_pay_2 : decode cX1_pay 2 = .ok (.iload_n 2, 1) := by decide +kernel
theorem dX1_pay_3 : decode cX1_pay 3 = .ok (.invokevirtual 30, 3) := by decide +kernel
theorem dX1_pay_6 : decode cX1_pay 6 = .ok (.istore_n 3, 1) := by decide +kernel
theorem dX1_pay_7 : decode cX1_pay 7 = .ok (.aload_n 0, 1) := by decide +kernel
theorem dX1_pay_8 : decode cX1_pay 8 = .ok (.getfield 9, 3) := by decide +kernel
theorem dX1_pay_11 : decode cX1_pay 11 = .ok (.iload_n 1, 1) := by decide +kernel
theorem dX1_pay_12 : decode cX1_pay 12 = .ok (.dup2, 1) := by decide +kernel
theorem dX1_pay_13 : decode cX1_pay 13 = .ok (.iaload, 1) := by decide +kernel
theorem dX1_pay_14 : decode cX1_pay 14 = .ok (.iload_n 3, 1) := by decide +kernel
theorem dX1_pay_15 : decode cX1_pay 15 = .ok (.isub, 1) := by decide +kernel
theorem dX1_pay_16 : decode cX1_pay 16 = .ok (.iastore, 1) := by decide +kernel
theorem dX1_pay_17 : decode cX1_pay 17 = .ok (.aload_n 0, 1) := by decide +kernel
theorem dX1_pay_18 : decode cX1_pay 18 = .ok (.getfield 9, 3) := by decide +kernel
theorem dX1_pay_21 : decode cX1_pay 21 = .ok (.iload_n 2, 1) := by decide +kernel
theorem dX1_pay_22 : decode cX1_pay 22 = .ok (.dup2, 1) := by decide +kernel
theorem dX1_pay_23 : decode cX1_pay 23 = .ok (.iaload, 1) := by decide +kernel
theorem dX1_pay_24 : decode cX1_pay 24 = .ok (.iload_n 3, 1) := by decide +kernel
theorem dX1_pay_25 : decode cX1_pay 25 = .ok (.iadd, 1) := by decide +kernel
theorem dX1_pay_26 : decode cX1_pay 26 = .ok (.iastore, 1) := by decide +kernel
theorem dX1_pay_27 : decode cX1_pay 27 = .ok (.aload_n 0, 1) := by decide +kernel
theorem dX1_pay_28 : decode cX1_pay 28 = .ok (.iload_n 2, 1) := by decide +kernel
theorem dX1_pay_29 : decode cX1_pay 29 = .ok (.iload_n 1, 1) := by decide +kernel
theorem dX1_pay_30 : decode cX1_pay 30 = .ok (.iload_n 3, 1) := by decide +kernel
theorem dX1_pay_31 : decode cX1_pay 31 = .ok (.invokevirtual 33, 3) := by decide +kernel
theorem dX1_pay_34 : decode cX1_pay 34 = .ok (.iload_n 3, 1) := by decide +kernel
theorem dX1_pay_35 : decode cX1_pay 35 = .ok (.ireturn, 1) := by decide +kernel
theorem dX2_init_0 : decode cX2_init 0 = .ok (.aload_n 0, 1) := by decide +kernel
theorem dX2_init_1 : decode cX2_init 1 = .ok (.invokespecial 3, 3) := by decide +kernel
theorem dX2_init_4 : decode cX2_init 4 = .ok (.aload_n 0, 1) := by decide +kernel
theorem dX2_init_5 : decode cX2_init 5 = .ok (.iconst 4, 1) := by decide +kernel
theorem dX2_init_6 : decode cX2_init 6 = .ok (.newarray .int, 2) := by decide +kernel
theorem dX2_init_8 : decode cX2_init 8 = .ok (.putfield 9, 3) := by decide +kernel
theorem dX2_init_11 : decode cX2_init 11 = .ok (.aload_n 0, 1) := by decide +kernel
theorem dX2_init_12 : decode cX2_init 12 = .ok (.iconst 4, 1) := by decide +kernel
theorem dX2_init_13 : decode cX2_init 13 = .ok (.newarray .int, 2) := by decide +kernel
theorem dX2_init_15 : decode cX2_init 15 = .ok (.putfield 15, 3) := by decide +kernel
theorem dX2_init_18 : decode cX2_init 18 = .ok (.aload_n 0, 1) := by decide +kernel
theorem dX2_init_19 : decode cX2_init 19 = .ok (.iconst 4, 1) := by decide +kernel
theorem dX2_init_20 : decode cX2_init 20 = .ok (.newarray .int, 2) := by decide +kernel
theorem dX2_init_22 : decode cX2_init 22 = .ok (.putfield 18, 3) := by decide +kernel
theorem dX2_init_25 : decode cX2_init 25 = .ok (.aload_n 0, 1) := by decide +kernel
theorem dX2_init_26 : decode cX2_init 26 = .ok (.iconst 4, 1) := by decide +kernel
theorem dX2_init_27 : decode cX2_init 27 = .ok (.newarray .int, 2) := by decide +kernel
theorem dX2_init_29 : decode cX2_init 29 = .ok (.putfield 21, 3) := by decide +kernel
theorem dX2_init_32 : decode cX2_init 32 = .ok (.aload_n 0, 1) := by decide +kernel
theorem dX2_init_33 : decode cX2_init 33 = .ok (.iconst 4, 1) := by decide +kernel
theorem dX2_init_34 : decode cX2_init 34 = .ok (.newarray .int, 2) := by decide +kernel
theorem dX2_init_36 : decode cX2_init 36 = .ok (.putfield 24, 3) := by decide +kernel
theorem dX2_init_39 : decode cX2_init 39 = .ok (.aload_n 0, 1) := by decide +kernel
theorem dX2_init_40 : decode cX2_init 40 = .ok (.iconst 0, 1) := by decide +kernel
theorem dX2_init_41 : decode cX2_init 41 = .ok (.putfield 27, 3) := by decide +kernel
theorem dX2_init_44 : decode cX2_init 44 = .ok (.aload_n 0, 1) := by decide +kernel
theorem dX2_init_45 : decode cX2_init 45 = .ok (.iconst 0, 1) := by decide +kernel
theorem dX2_init_46 : decode cX2_init 46 = .ok (.putfield 31, 3) := by decide +kernel
theorem dX2_init_49 : decode cX2_init 49 = .ok (.return_, 1) := by decide +kernel
theorem dX2_addClean_0 : decode cX2_addClean 0 = .ok (.aload_n 0, 1) := by decide +kernel
theorem dX2_addClean_1 : decode cX2_addClean 1 = .ok (.getfield 9, 3) := by decide +kernel
theorem dX2_addClean_4 : decode cX2_addClean 4 = .ok (.iload_n 1, 1) := by decide +kernel
theorem dX2_addClean_5 : decode cX2_addClean 5 = .ok (.dup2, 1) := by decide +kernel
theorem dX2_addClean_6 : decode cX2_addClean 6 = .ok (.iaload, 1) := by decide +kernel
theorem dX2_addClean_7 : decode cX2_addClean 7 = .ok (.iload_n 2, 1) := by decide +kernel
theorem dX2_addClean_8 : decode cX2_addClean 8 = .ok (.iadd, 1) := by decide +kernel
theorem dX2_addClean_9 : decode cX2_addClean 9 = .ok (.iastore, 1) := by decide +kernel
theorem dX2_addClean_10 : decode cX2_addClean 10 = .ok (.aload_n 0, 1) := by decide +kernel
theorem dX2_addClean_11 : decode cX2_addClean 11 = .ok (.getfield 9, 3) := by decide +kernel
theorem dX2_addClean_14 : decode cX2_addClean 14 = .ok (.iload_n 1, 1) := by decide +kernel
theorem dX2_addClean_15 : decode cX2_addClean 15 = .ok (.iaload, 1) := by decide +kernel
theorem dX2_addClean_16 : decode cX2_addClean 16 = .ok (.ireturn, 1) := by decide +kernel
theorem dX2_changeBroken_0 : decode cX2_changeBroken 0 = .ok (.aload_n 0, 1) := by decide +kernel
theorem dX2_changeBroken_1 : decode cX2_changeBroken 1 = .ok (.getfield 27, 3) := by decide +kernel
theorem dX2_changeBroken_4 : decode cX2_changeBroken 4 = .ok (.istore_n 2, 1) := by decide +kernel
theorem dX2_changeBroken_5 : decode cX2_changeBroken 5 = .ok (.aload_n 0, 1) := by decide +kernel
theorem dX2_changeBroken_6 : decode cX2_changeBroken 6 = .ok (.iload_n 1, 1) := by decide +kernel
theorem dX2_changeBroken_7 : decode cX2_changeBroken 7 = .ok (.putfield 27, 3) := by decide +kernel
theorem dX2_changeBroken_10 : decode cX2_changeBroken 10 = .ok (.iload_n 2, 1) := by decide +kernel
theorem dX2_changeBroken_11 : decode cX2_changeBroken 11 = .ok (.ireturn, 1) := by decide +kernel
theorem dX2_awayOf_0 : decode cX2_awayOf 0 = .ok (.aload_n 0, 1) := by decide +kernel
theorem dX2_awayOf_1 : decode cX2_awayOf 1 = .ok (.getfield 15, 3) := by decide +kernel
theorem dX2_awayOf_4 : decode cX2_awayOf 4 = .ok (.iload_n 1, 1) := by decide +kernel
theorem dX2_awayOf_5 : decode cX2_awayOf 5 = .ok (.iaload, 1) := by decide +kernel
theorem dX2_awayOf_6 : decode cX2_awayOf 6 = .ok (.aload_n 0, 1) := by decide +kernel
theorem dX2_awayOf_7 : decode cX2_awayOf 7 = .ok (.getfield 18, 3) := by decide +kernel
theorem dX2_awayOf_10 : decode cX2_awayOf 10 = .ok (.iload_n 1, 1) := by decide +kernel
theorem dX2_awayOf_11 : decode cX2_awayOf 11 = .ok (.iaload, 1) := by decide +kernel
theorem dX2_awayOf_12 : decode cX2_awayOf 12 = .ok (.iadd, 1) := by decide +kernel
theorem dX2_awayOf_13 : decode cX2_awayOf 13 = .ok (.aload_n 0, 1) := by decide +kernel
theorem dX2_awayOf_14 : decode cX2_awayOf 14 = .ok (.getfield 21, 3) := by decide +kernel
theorem dX2_awayOf_17 : decode cX2_awayOf 17 = .ok (.iload_n 1, 1) := by decide +kernel
theorem dX2_awayOf_18 : decode cX2_awayOf 18 = .ok (.iaload, 1) := by decide +kernel
theorem dX2_awayOf_19 : decode cX2_awayOf 19 = .ok (.iadd, 1) := by decide +kernel
theorem dX2_awayOf_20 : decode cX2_awayOf 20 = .ok (.aload_n 0, 1) := by decide +kernel
theorem dX2_awayOf_21 : decode cX2_awayOf 21 = .ok (.getfield 24, 3) := by decide +kernel
theorem dX2_awayOf_24 : decode cX2_awayOf 24 = .ok (.iload_n 1, 1) := by decide +kernel
theorem dX2_awayOf_25 : decode cX2_awayOf 25 = .ok (.iaload, 1) := by decide +kernel
theorem dX2_awayOf_26 : decode cX2_awayOf 26 = .ok (.iadd, 1) := by decide +kernel
theorem dX2_awayOf_27 : decode cX2_awayOf 27 = .ok (.ireturn, 1) := by decide +kernel
theorem dX2_giverFor_0 : decode cX2_giverFor 0 = .ok (.aload_n 0, 1) := by decide +kernel
theorem dX2_giverFor_1 : decode cX2_giverFor 1 = .ok (.getfield 9, 3) := by decide +kernel
theorem dX2_giverFor_4 : decode cX2_giverFor 4 = .ok (.iload_n 1, 1) := by decide +kernel
theorem dX2_giverFor_5 : decode cX2_giverFor 5 = .ok (.iaload, 1) := by decide +kernel
theorem dX2_giverFor_6 : decode cX2_giverFor 6 = .ok (.ifCond .le 5, 3) := by decide +kernel
theorem dX2_giverFor_9 : decode cX2_giverFor 9 = .ok (.iload_n 1, 1) := by decide +kernel
theorem dX2_giverFor_10 : decode cX2_giverFor 10 = .ok (.ireturn, 1) := by decide +kernel
theorem dX2_giverFor_11 : decode cX2_giverFor 11 = .ok (.iconst (-1), 1) := by decide +kernel
theorem dX2_giverFor_12 : decode cX2_giverFor 12 = .ok (.istore_n 2, 1) := by decide +kernel
theorem dX2_giverFor_13 : decode cX2_giverFor 13 = .ok (.iconst 0, 1) := by decide +kernel
theorem dX2_giverFor_14 : decode cX2_giverFor 14 = .ok (.istore_n 3, 1) := by decide +kernel
theorem dX2_giverFor_15 : decode cX2_giverFor 15 = .ok (.iconst 0, 1) := by decide +kernel
theorem dX2_giverFor_16 : decode cX2_giverFor 16 = .ok (.istore 4, 2) := by decide +kernel
theorem dX2_giverFor_18 : decode cX2_giverFor 18 = .ok (.iload 4, 2) := by decide +kernel
theorem dX2_giverFor_20 : decode cX2_giverFor 20 = .ok (.iconst 4, 1) := by decide +kernel
theorem dX2_giverFor_21 : decode cX2_giverFor 21 = .ok (.if_icmp .ge 31, 3) := by decide +kernel
theorem dX2_giverFor_24 : decode cX2_giverFor 24 = .ok (.aload_n 0, 1) := by decide +kernel
theorem dX2_giverFor_25 : decode cX2_giverFor 25 = .ok (.getfield 9, 3) := by decide +kernel
theorem dX2_giverFor_28 : decode cX2_giverFor 28 = .ok (.iload 4, 2) := by decide +kernel
theorem dX2_giverFor_30 : decode cX2_giverFor 30 = .ok (.iaload, 1) := by decide +kernel
theorem dX2_giverFor_31 : decode cX2_giverFor 31 = .ok (.iload_n 3, 1) := by decide +kernel
theorem dX2_giverFor_32 : decode cX2_giverFor 32 = .ok (.if_icmp .le 14, 3) := by decide +kernel
theorem dX2_giverFor_35 : decode cX2_giverFor 35 = .ok (.iload 4, 2) := by decide +kernel
theorem dX2_giverFor_37 : decode cX2_giverFor 37 = .ok (.istore_n 2, 1) := by decide +kernel
theorem dX2_giverFor_38 : decode cX2_giverFor 38 = .ok (.aload_n 0, 1) := by decide +kernel
theorem dX2_giverFor_39 : decode cX2_giverFor 39 = .ok (.getfield 9, 3) := by decide +kernel
theorem dX2_giverFor_42 : decode cX2_giverFor 42 = .ok (.iload 4, 2) := by decide +kernel
theorem dX2_giverFor_44 : decode cX2_giverFor 44 = .ok (.iaload, 1) := by decide +kernel
theorem dX2_giverFor_45 : decode cX2_giverFor 45 = .ok (.istore_n 3, 1) := by decide +kernel
theorem dX2_giverFor_46 : decode cX2_giverFor 46 = .ok (.iinc 4 1, 3) := by decide +kernel
theorem dX2_giverFor_49 : decode cX2_giverFor 49 = .ok (.goto (-31), 3) := by decide +kernel
theorem dX2_giverFor_52 : decode cX2_giverFor 52 = .ok (.iload_n 2, 1) := by decide +kernel
theorem dX2_giverFor_53 : decode cX2_giverFor 53 = .ok (.ireturn, 1) := by decide +kernel
theorem dX2_chargeForBorrowing_0 : decode cX2_chargeForBorrowing 0 = .ok (.iconst 1, 1) := by decide +kernel
theorem dX2_chargeForBorrowing_1 : decode cX2_chargeForBorrowing 1 = .ok (.aload_n 0, 1) := by decide +kernel
theorem dX2_chargeForBorrowing_2 : decode cX2_chargeForBorrowing 2 = .ok (.getfield 31, 3) := by decide +kernel
theorem dX2_chargeForBorrowing_5 : decode cX2_chargeForBorrowing 5 = .ok (.iadd, 1) := by decide +kernel
theorem dX2_chargeForBorrowing_6 : decode cX2_chargeForBorrowing 6 = .ok (.ireturn, 1) := by decide +kernel
theorem dX2_take_0 : decode cX2_take 0 = .ok (.aload_n 0, 1) := by decide +kernel
theorem dX2_take_1 : decode cX2_take 1 = .ok (.getfield 9, 3) := by decide +kernel
theorem dX2_take_4 : decode cX2_take 4 = .ok (.iload_n 2, 1) := by decide +kernel
theorem dX2_take_5 : decode cX2_take 5 = .ok (.dup2, 1) := by decide +kernel
theorem dX2_take_6 : decode cX2_take 6 = .ok (.iaload, 1) := by decide +kernel
theorem dX2_take_7 : decode cX2_take 7 = .ok (.iconst 1, 1) := by decide +kernel
theorem dX2_take_8 : decode cX2_take 8 = .ok (.isub, 1) := by decide +kernel
theorem dX2_take_9 : decode cX2_take 9 = .ok (.iastore, 1) := by decide +kernel
theorem dX2_take_10 : decode cX2_take 10 = .ok (.aload_n 0, 1) := by decide +kernel
theorem dX2_take_11 : decode cX2_take 11 = .ok (.getfield 15, 3) := by decide +kernel
theorem dX2_take_14 : decode cX2_take 14 = .ok (.iload_n 1, 1) := by decide +kernel
theorem dX2_take_15 : decode cX2_take 15 = .ok (.dup2, 1) := by decide +kernel
theorem dX2_take_16 : decode cX2_take 16 = .ok (.iaload, 1) := by decide +kernel
theorem dX2_take_17 : decode cX2_take 17 = .ok (.iconst 1, 1) := by decide +kernel
theorem dX2_take_18 : decode cX2_take 18 = .ok (.iadd, 1) := by decide +kernel
theorem dX2_take_19 : decode cX2_take 19 = .ok (.iastore, 1) := by decide +kernel
theorem dX2_take_20 : decode cX2_take 20 = .ok (.iload_n 2, 1) := by decide +kernel
theorem dX2_take_21 : decode cX2_take 21 = .ok (.iload_n 1, 1) := by decide +kernel
theorem dX2_take_22 : decode cX2_take 22 = .ok (.if_icmp .eq 13, 3) := by decide +kernel
theorem dX2_take_25 : decode cX2_take 25 = .ok (.aload_n 0, 1) := by decide +kernel
theorem dX2_take_26 : decode cX2_take 26 = .ok (.dup, 1) := by decide +kernel
theorem dX2_take_27 : decode cX2_take 27 = .ok (.getfield 31, 3) := by decide +kernel
theorem dX2_take_30 : decode cX2_take 30 = .ok (.iconst 1, 1) := by decide +kernel
theorem dX2_take_31 : decode cX2_take 31 = .ok (.iadd, 1) := by decide +kernel
theorem dX2_take_32 : decode cX2_take 32 = .ok (.putfield 31, 3) := by decide +kernel
theorem dX2_take_35 : decode cX2_take 35 = .ok (.return_, 1) := by decide +kernel
theorem dX2_endNight_0 : decode cX2_endNight 0 = .ok (.iconst 0, 1) := by decide +kernel
theorem dX2_endNight_1 : decode cX2_endNight 1 = .ok (.istore_n 1, 1) := by decide +kernel
theorem dX2_endNight_2 : decode cX2_endNight 2 = .ok (.iload_n 1, 1) := by decide +kernel
theorem dX2_endNight_3 : decode cX2_endNight 3 = .ok (.iconst 4, 1) := by decide +kernel
theorem dX2_endNight_4 : decode cX2_endNight 4 = .ok (.if_icmp .ge 84, 3) := by decide +kernel
theorem dX2_endNight_7 : decode cX2_endNight 7 = .ok (.aload_n 0, 1) := by decide +kernel
theorem dX2_endNight_8 : decode cX2_endNight 8 = .ok (.getfield 24, 3) := by decide +kernel
theorem dX2_endNight_11 : decode cX2_endNight 11 = .ok (.iload_n 1, 1) := by decide +kernel
theorem dX2_endNight_12 : decode cX2_endNight 12 = .ok (.dup2, 1) := by decide +kernel
theorem dX2_endNight_13 : decode cX2_endNight 13 = .ok (.iaload, 1) := by decide +kernel
theorem dX2_endNight_14 : decode cX2_endNight 14 = .ok (.aload_n 0, 1) := by decide +kernel
theorem dX2_endNight_15 : decode cX2_endNight 15 = .ok (.getfield 21, 3) := by decide +kernel
theorem dX2_endNight_18 : decode cX2_endNight 18 = .ok (.iload_n 1, 1) := by decide +kernel
theorem dX2_endNight_19 : decode cX2_endNight 19 = .ok (.iaload, 1) := by decide +kernel
theorem dX2_endNight_20 : decode cX2_endNight 20 = .ok (.iadd, 1) := by decide +kernel
theorem dX2_endNight_21 : decode cX2_endNight 21 = .ok (.iastore, 1) := by decide +kernel
theorem dX2_endNight_22 : decode cX2_endNight 22 = .ok (.aload_n 0, 1) := by decide +kernel
theorem dX2_endNight_23 : decode cX2_endNight 23 = .ok (.getfield 21, 3) := by decide +kernel
theorem dX2_endNight_26 : decode cX2_endNight 26 = .ok (.iload_n 1, 1) := by decide +kernel
theorem dX2_endNight_27 : decode cX2_endNight 27 = .ok (.aload_n 0, 1) := by decide +kernel
theorem dX2_endNight_28 : decode cX2_endNight 28 = .ok (.getfield 18, 3) := by decide +kernel
theorem dX2_endNight_31 : decode cX2_endNight 31 = .ok (.iload_n 1, 1) := by decide +kernel
theorem dX2_endNight_32 : decode cX2_endNight 32 = .ok (.iaload, 1) := by decide +kernel
theorem dX2_endNight_33 : decode cX2_endNight 33 = .ok (.iastore, 1) := by decide +kernel
theorem dX2_endNight_34 : decode cX2_endNight 34 = .ok (.aload_n 0, 1) := by decide +kernel
theorem dX2_endNight_35 : decode cX2_endNight 35 = .ok (.getfield 18, 3) := by decide +kernel
theorem dX2_endNight_38 : decode cX2_endNight 38 = .ok (.iload_n 1, 1) := by decide +kernel
theorem dX2_endNight_39 : decode cX2_endNight 39 = .ok (.aload_n 0, 1) := by decide +kernel
theorem dX2_endNight_40 : decode cX2_endNight 40 = .ok (.getfield 15, 3) := by decide +kernel
theorem dX2_endNight_43 : decode cX2_endNight 43 = .ok (.iload_n 1, 1) := by decide +kernel
theorem dX2_endNight_44 : decode cX2_endNight 44 = .ok (.iaload, 1) := by decide +kernel
theorem dX2_endNight_45 : decode cX2_endNight 45 = .ok (.iastore, 1) := by decide +kernel
theorem dX2_endNight_46 : decode cX2_endNight 46 = .ok (.aload_n 0, 1) := by decide +kernel
theorem dX2_endNight_47 : decode cX2_endNight 47 = .ok (.getfield 15, 3) := by decide +kernel
theorem dX2_endNight_50 : decode cX2_endNight 50 = .ok (.iload_n 1, 1) := by decide +kernel
theorem dX2_endNight_51 : decode cX2_endNight 51 = .ok (.iconst 0, 1) := by decide +kernel
theorem dX2_endNight_52 : decode cX2_endNight 52 = .ok (.iastore, 1) := by decide +kernel
theorem dX2_endNight_53 : decode cX2_endNight 53 = .ok (.aload_n 0, 1) := by decide +kernel
theorem dX2_endNight_54 : decode cX2_endNight 54 = .ok (.getfield 27, 3) := by decide +kernel
theorem dX2_endNight_57 : decode cX2_endNight 57 = .ok (.ifCond .ne 25, 3) := by decide +kernel
theorem dX2_endNight_60 : decode cX2_endNight 60 = .ok (.aload_n 0, 1) := by decide +kernel
theorem dX2_endNight_61 : decode cX2_endNight 61 = .ok (.getfield 9, 3) := by decide +kernel
theorem dX2_endNight_64 : decode cX2_endNight 64 = .ok (.iload_n 1, 1) := by decide +kernel
theorem dX2_endNight_65 : decode cX2_endNight 65 = .ok (.dup2, 1) := by decide +kernel
theorem dX2_endNight_66 : decode cX2_endNight 66 = .ok (.iaload, 1) := by decide +kernel
theorem dX2_endNight_67 : decode cX2_endNight 67 = .ok (.aload_n 0, 1) := by decide +kernel
theorem dX2_endNight_68 : decode cX2_endNight 68 = .ok (.getfield 24, 3) := by decide +kernel
theorem dX2_endNight_71 : decode cX2_endNight 71 = .ok (.iload_n 1, 1) := by decide +kernel
theorem dX2_endNight_72 : decode cX2_endNight 72 = .ok (.iaload, 1) := by decide +kernel
theorem dX2_endNight_73 : decode cX2_endNight 73 = .ok (.iadd, 1) := by decide +kernel
theorem dX2_endNight_74 : decode cX2_endNight 74 = .ok (.iastore, 1) := by decide +kernel
theorem dX2_endNight_75 : decode cX2_endNight 75 = .ok (.aload_n 0, 1) := by decide +kernel
theorem dX2_endNight_76 : decode cX2_endNight 76 = .ok (.getfield 24, 3) := by decide +kernel
theorem dX2_endNight_79 : decode cX2_endNight 79 = .ok (.iload_n 1, 1) := by decide +kernel
theorem dX2_endNight_80 : decode cX2_endNight 80 = .ok (.iconst 0, 1) := by decide +kernel
theorem dX2_endNight_81 : decode cX2_endNight 81 = .ok (.iastore, 1) := by decide +kernel
theorem dX2_endNight_82 : decode cX2_endNight 82 = .ok (.iinc 1 1, 3) := by decide +kernel
theorem dX2_endNight_85 : decode cX2_endNight 85 = .ok (.goto (-83), 3) := by decide +kernel
theorem dX2_endNight_88 : decode cX2_endNight 88 = .ok (.aload_n 0, 1) := by decide +kernel
theorem dX2_endNight_89 : decode cX2_endNight 89 = .ok (.iconst 0, 1) := by decide +kernel
theorem dX2_endNight_90 : decode cX2_endNight 90 = .ok (.putfield 31, 3) := by decide +kernel
theorem dX2_endNight_93 : decode cX2_endNight 93 = .ok (.return_, 1) := by decide +kernel
theorem dX3_init_0 : decode cX3_init 0 = .ok (.aload_n 0, 1) := by decide +kernel
theorem dX3_init_1 : decode cX3_init 1 = .ok (.invokespecial 3, 3) := by decide +kernel
theorem dX3_init_4 : decode cX3_init 4 = .ok (.aload_n 0, 1) := by decide +kernel
theorem dX3_init_5 : decode cX3_init 5 = .ok (.bipush 80, 2) := by decide +kernel
theorem dX3_init_7 : decode cX3_init 7 = .ok (.newarray .int, 2) := by decide +kernel
theorem dX3_init_9 : decode cX3_init 9 = .ok (.putfield 9, 3) := by decide +kernel
theorem dX3_init_12 : decode cX3_init 12 = .ok (.aload_n 0, 1) := by decide +kernel
theorem dX3_init_13 : decode cX3_init 13 = .ok (.bipush 80, 2) := by decide +kernel
theorem dX3_init_15 : decode cX3_init 15 = .ok (.newarray .int, 2) := by decide +kernel
theorem dX3_init_17 : decode cX3_init 17 = .ok (.putfield 15, 3) := by decide +kernel
theorem dX3_init_20 : decode cX3_init 20 = .ok (.aload_n 0, 1) := by decide +kernel
theorem dX3_init_21 : decode cX3_init 21 = .ok (.bipush 80, 2) := by decide +kernel
theorem dX3_init_23 : decode cX3_init 23 = .ok (.newarray .int, 2) := by decide +kernel
theorem dX3_init_25 : decode cX3_init 25 = .ok (.putfield 18, 3) := by decide +kernel
theorem dX3_init_28 : decode cX3_init 28 = .ok (.aload_n 0, 1) := by decide +kernel
theorem dX3_init_29 : decode cX3_init 29 = .ok (.iconst 0, 1) := by decide +kernel
theorem dX3_init_30 : decode cX3_init 30 = .ok (.putfield 21, 3) := by decide +kernel
theorem dX3_init_33 : decode cX3_init 33 = .ok (.return_, 1) := by decide +kernel
theorem dX3_add_0 : decode cX3_add 0 = .ok (.aload_n 0, 1) := by decide +kernel
theorem dX3_add_1 : decode cX3_add 1 = .ok (.getfield 21, 3) := by decide +kernel
theorem dX3_add_4 : decode cX3_add 4 = .ok (.bipush 80, 2) := by decide +kernel
theorem dX3_add_6 : decode cX3_add 6 = .ok (.if_icmp .lt 4, 3) := by decide +kernel
theorem dX3_add_9 : decode cX3_add 9 = .ok (.return_, 1) := by decide +kernel
theorem dX3_add_10 : decode cX3_add 10 = .ok (.aload_n 0, 1) := by decide +kernel
theorem dX3_add_11 : decode cX3_add 11 = .ok (.getfield 9, 3) := by decide +kernel
theorem dX3_add_14 : decode cX3_add 14 = .ok (.aload_n 0, 1) := by decide +kernel
theorem dX3_add_15 : decode cX3_add 15 = .ok (.getfield 21, 3) := by decide +kernel
theorem dX3_add_18 : decode cX3_add 18 = .ok (.iload_n 1, 1) := by decide +kernel
theorem dX3_add_19 : decode cX3_add 19 = .ok (.iastore, 1) := by decide +kernel
theorem dX3_add_20 : decode cX3_add 20 = .ok (.aload_n 0, 1) := by decide +kernel
theorem dX3_add_21 : decode cX3_add 21 = .ok (.getfield 15, 3) := by decide +kernel
theorem dX3_add_24 : decode cX3_add 24 = .ok (.aload_n 0, 1) := by decide +kernel
theorem dX3_add_25 : decode cX3_add 25 = .ok (.getfield 21, 3) := by decide +kernel
theorem dX3_add_28 : decode cX3_add 28 = .ok (.iload_n 2, 1) := by decide +kernel
theorem dX3_add_29 : decode cX3_add 29 = .ok (.iastore, 1) := by decide +kernel
theorem dX3_add_30 : decode cX3_add 30 = .ok (.aload_n 0, 1) := by decide +kernel
theorem dX3_add_31 : decode cX3_add 31 = .ok (.getfield 18, 3) := by decide +kernel
theorem dX3_add_34 : decode cX3_add 34 = .ok (.aload_n 0, 1) := by decide +kernel
theorem dX3_add_35 : decode cX3_add 35 = .ok (.getfield 21, 3) := by decide +kernel
theorem dX3_add_38 : decode cX3_add 38 = .ok (.iload_n 3, 1) := by decide +kernel
theorem dX3_add_39 : decode cX3_add 39 = .ok (.iastore, 1) := by decide +kernel
theorem dX3_add_40 : decode cX3_add 40 = .ok (.aload_n 0, 1) := by decide +kernel
theorem dX3_add_41 : decode cX3_add 41 = .ok (.dup, 1) := by decide +kernel
theorem dX3_add_42 : decode cX3_add 42 = .ok (.getfield 21, 3) := by decide +kernel
theorem dX3_add_45 : decode cX3_add 45 = .ok (.iconst 1, 1) := by decide +kernel
theorem dX3_add_46 : decode cX3_add 46 = .ok (.iadd, 1) := by decide +kernel
theorem dX3_add_47 : decode cX3_add 47 = .ok (.putfield 21, 3) := by decide +kernel
theorem dX3_add_50 : decode cX3_add 50 = .ok (.return_, 1) := by decide +kernel
theorem dX3_ofGuest_0 : decode cX3_ofGuest 0 = .ok (.iconst 0, 1) := by decide +kernel
theorem dX3_ofGuest_1 : decode cX3_ofGuest 1 = .ok (.istore_n 2, 1) := by decide +kernel
theorem dX3_ofGuest_2 : decode cX3_ofGuest 2 = .ok (.iconst 0, 1) := by decide +kernel
theorem dX3_ofGuest_3 : decode cX3_ofGuest 3 = .ok (.istore_n 3, 1) := by decide +kernel
theorem dX3_ofGuest_4 : decode cX3_ofGuest 4 = .ok (.iload_n 3, 1) := by decide +kernel
theorem dX3_ofGuest_5 : decode cX3_ofGuest 5 = .ok (.aload_n 0, 1) := by decide +kernel
theorem dX3_ofGuest_6 : decode cX3_ofGuest 6 = .ok (.getfield 21, 3) := by decide +kernel
theorem dX3_ofGuest_9 : decode cX3_ofGuest 9 = .ok (.if_icmp .ge 28, 3) := by decide +kernel
theorem dX3_ofGuest_12 : decode cX3_ofGuest 12 = .ok (.aload_n 0, 1) := by decide +kernel
theorem dX3_ofGuest_13 : decode cX3_ofGuest 13 = .ok (.getfield 9, 3) := by decide +kernel
theorem dX3_ofGuest_16 : decode cX3_ofGuest 16 = .ok (.iload_n 3, 1) := by decide +kernel
theorem dX3_ofGuest_17 : decode cX3_ofGuest 17 = .ok (.iaload, 1) := by decide +kernel
theorem dX3_ofGuest_18 : decode cX3_ofGuest 18 = .ok (.iload_n 1, 1) := by decide +kernel
theorem dX3_ofGuest_19 : decode cX3_ofGuest 19 = .ok (.if_icmp .ne 12, 3) := by decide +kernel
theorem dX3_ofGuest_22 : decode cX3_ofGuest 22 = .ok (.iload_n 2, 1) := by decide +kernel
theorem dX3_ofGuest_23 : decode cX3_ofGuest 23 = .ok (.aload_n 0, 1) := by decide +kernel
theorem dX3_ofGuest_24 : decode cX3_ofGuest 24 = .ok (.getfield 18, 3) := by decide +kernel
theorem dX3_ofGuest_27 : decode cX3_ofGuest 27 = .ok (.iload_n 3, 1) := by decide +kernel
theorem dX3_ofGuest_28 : decode cX3_ofGuest 28 = .ok (.iaload, 1) := by decide +kernel
theorem dX3_ofGuest_29 : decode cX3_ofGuest 29 = .ok (.iadd, 1) := by decide +kernel
theorem dX3_ofGuest_30 : decode cX3_ofGuest 30 = .ok (.istore_n 2, 1) := by decide +kernel
theorem dX3_ofGuest_31 : decode cX3_ofGuest 31 = .ok (.iinc 3 1, 3) := by decide +kernel
theorem dX3_ofGuest_34 : decode cX3_ofGuest 34 = .ok (.goto (-30), 3) := by decide +kernel
theorem dX3_ofGuest_37 : decode cX3_ofGuest 37 = .ok (.iload_n 2, 1) := by decide +kernel
theorem dX3_ofGuest_38 : decode cX3_ofGuest 38 = .ok (.ireturn, 1) := by decide +kernel
theorem dX3_takeFrom_0 : decode cX3_takeFrom 0 = .ok (.aload_n 0, 1) := by decide +kernel
theorem dX3_takeFrom_1 : decode cX3_takeFrom 1 = .ok (.getfield 9, 3) := by decide +kernel
theorem dX3_takeFrom_4 : decode cX3_takeFrom 4 = .ok (.iload_n 1, 1) := by decide +kernel
theorem dX3_takeFrom_5 : decode cX3_takeFrom 5 = .ok (.iaload, 1) := by decide +kernel
theorem dX3_takeFrom_6 : decode cX3_takeFrom 6 = .ok (.iload_n 2, 1) := by decide +kernel
theorem dX3_takeFrom_7 : decode cX3_takeFrom 7 = .ok (.if_icmp .eq 5, 3) := by decide +kernel
theorem dX3_takeFrom_10 : decode cX3_takeFrom 10 = .ok (.iconst 0, 1) := by decide +kernel
theorem dX3_takeFrom_11 : decode cX3_takeFrom 11 = .ok (.ireturn, 1) := by decide +kernel
theorem dX3_takeFrom_12 : decode cX3_takeFrom 12 = .ok (.aload_n 0, 1) := by decide +kernel
theorem dX3_takeFrom_13 : decode cX3_takeFrom 13 = .ok (.getfield 18, 3) := by decide +kernel
theorem dX3_takeFrom_16 : decode cX3_takeFrom 16 = .ok (.iload_n 1, 1) := by decide +kernel
theorem dX3_takeFrom_17 : decode cX3_takeFrom 17 = .ok (.iaload, 1) := by decide +kernel
theorem dX3_takeFrom_18 : decode cX3_takeFrom 18 = .ok (.iload_n 3, 1) := by decide +kernel
theorem dX3_takeFrom_19 : decode cX3_takeFrom 19 = .ok (.invokestatic 25, 3) := by decide +kernel
theorem dX3_takeFrom_22 : decode cX3_takeFrom 22 = .ok (.istore 4, 2) := by decide +kernel
theorem dX3_takeFrom_24 : decode cX3_takeFrom 24 = .ok (.aload_n 0, 1) := by decide +kernel
theorem dX3_takeFrom_25 : decode cX3_takeFrom 25 = .ok (.getfield 18, 3) := by decide +kernel
theorem dX3_takeFrom_28 : decode cX3_takeFrom 28 = .ok (.iload_n 1, 1) := by decide +kernel
theorem dX3_takeFrom_29 : decode cX3_takeFrom 29 = .ok (.dup2, 1) := by decide +kernel
theorem dX3_takeFrom_30 : decode cX3_takeFrom 30 = .ok (.iaload, 1) := by decide +kernel
theorem dX3_takeFrom_31 : decode cX3_takeFrom 31 = .ok (.iload 4, 2) := by decide +kernel
theorem dX3_takeFrom_33 : decode cX3_takeFrom 33 = .ok (.isub, 1) := by decide +kernel
theorem dX3_takeFrom_34 : decode cX3_takeFrom 34 = .ok (.iastore, 1) := by decide +kernel
theorem dX3_takeFrom_35 : decode cX3_takeFrom 35 = .ok (.iload 4, 2) := by decide +kernel
theorem dX3_takeFrom_37 : decode cX3_takeFrom 37 = .ok (.ireturn, 1) := by decide +kernel
theorem dX4_init_0 : decode cX4_init 0 = .ok (.aload_n 0, 1) := by decide +kernel
theorem dX4_init_1 : decode cX4_init 1 = .ok (.invokespecial 3, 3) := by decide +kernel
theorem dX4_init_4 : decode cX4_init 4 = .ok (.aload_n 0, 1) := by decide +kernel
theorem dX4_init_5 : decode cX4_init 5 = .ok (.bipush 8, 2) := by decide +kernel
theorem dX4_init_7 : decode cX4_init 7 = .ok (.newarray .int, 2) := by decide +kernel
theorem dX4_init_9 : decode cX4_init 9 = .ok (.putfield 9, 3) := by decide +kernel
theorem dX4_init_12 : decode cX4_init 12 = .ok (.aload_n 0, 1) := by decide +kernel
theorem dX4_init_13 : decode cX4_init 13 = .ok (.bipush 8, 2) := by decide +kernel
theorem dX4_init_15 : decode cX4_init 15 = .ok (.newarray .int, 2) := by decide +kernel
theorem dX4_init_17 : decode cX4_init 17 = .ok (.putfield 15, 3) := by decide +kernel
theorem dX4_init_20 : decode cX4_init 20 = .ok (.aload_n 0, 1) := by decide +kernel
theorem dX4_init_21 : decode cX4_init 21 = .ok (.bipush 8, 2) := by decide +kernel
theorem dX4_init_23 : decode cX4_init 23 = .ok (.newarray .int, 2) := by decide +kernel
theorem dX4_init_25 : decode cX4_init 25 = .ok (.putfield 18, 3) := by decide +kernel
theorem dX4_init_28 : decode cX4_init 28 = .ok (.iconst 0, 1) := by decide +kernel
theorem dX4_init_29 : decode cX4_init 29 = .ok (.istore_n 1, 1) := by decide +kernel
theorem dX4_init_30 : decode cX4_init 30 = .ok (.iload_n 1, 1) := by decide +kernel
theorem dX4_init_31 : decode cX4_init 31 = .ok (.bipush 8, 2) := by decide +kernel
theorem dX4_init_33 : decode cX4_init 33 = .ok (.if_icmp .ge 17, 3) := by decide +kernel
theorem dX4_init_36 : decode cX4_init 36 = .ok (.aload_n 0, 1) := by decide +kernel
theorem dX4_init_37 : decode cX4_init 37 = .ok (.getfield 15, 3) := by decide +kernel
theorem dX4_init_40 : decode cX4_init 40 = .ok (.iload_n 1, 1) := by decide +kernel
theorem dX4_init_41 : decode cX4_init 41 = .ok (.bipush 10, 2) := by decide +kernel
theorem dX4_init_43 : decode cX4_init 43 = .ok (.iastore, 1) := by decide +kernel
theorem dX4_init_44 : decode cX4_init 44 = .ok (.iinc 1 1, 3) := by decide +kernel
theorem dX4_init_47 : decode cX4_init 47 = .ok (.goto (-17), 3) := by decide +kernel
theorem dX4_init_50 : decode cX4_init 50 = .ok (.return_, 1) := by decide +kernel
theorem dX4_row_0 : decode cX4_row 0 = .ok (.iload_n 0, 1) := by decide +kernel
theorem dX4_row_1 : decode cX4_row 1 = .ok (.iconst 2, 1) := by decide +kernel
theorem dX4_row_2 : decode cX4_row 2 = .ok (.imul, 1) := by decide +kernel
theorem dX4_row_3 : decode cX4_row 3 = .ok (.iload_n 1, 1) := by decide +kernel
theorem dX4_row_4 : decode cX4_row 4 = .ok (.iadd, 1) := by decide +kernel
theorem dX4_row_5 : decode cX4_row 5 = .ok (.ireturn, 1) := by decide +kernel
set_option maxRecDepth 20000 in
theorem ggX4_countOf_X4_row : GoodIn wsX4_countOf wsX4_row := goodIn_r _ [5] (by decide +kernel) (by decide +kernel)
set_option maxRecDepth 20000 in
theorem gX4_countOf_X4_row : GoodIn wsX4_countOf (va_wsS RX4 21 yX4_row wsX4_row) := goodIn_app (goodIn_of _ (by decide +kernel)) ggX4_countOf_X4_row
theorem dX4_countOf_0 : decode cX4_countOf 0 = .ok (.aload_n 0, 1) := by decide +kernel
theorem dX4_countOf_1 : decode cX4_countOf 1 = .ok (.getfield 9, 3) := by decide +kernel
theorem dX4_countOf_4 : decode cX4_countOf 4 = .ok (.iload_n 1, 1) := by decide +kernel
theorem dX4_countOf_5 : decode cX4_countOf 5 = .ok (.iload_n 2, 1) := by decide +kernel
theorem dX4_countOf_6 : decode cX4_countOf 6 = .ok (.invokestatic 21, 3) := by decide +kernel
theorem dX4_countOf_9 : decode cX4_countOf 9 = .ok (.iaload, 1) := by decide +kernel
theorem dX4_countOf_10 : decode cX4_countOf 10 = .ok (.ireturn, 1) := by decide +kernel
set_option maxRecDepth 20000 in
theorem ggX4_priceOf_X4_row : GoodIn wsX4_priceOf wsX4_row := goodIn_r _ [5] (by decide +kernel) (by decide +kernel)
set_option maxRecDepth 20000 in
theorem gX4_priceOf_X4_row : GoodIn wsX4_priceOf (va_wsS RX4 21 yX4_row wsX4_row) := goodIn_app (goodIn_of _ (by decide +kernel)) ggX4_priceOf_X4_row
theorem dX4_priceOf_0 : decode cX4_priceOf 0 = .ok (.aload_n 0, 1) := by decide +kernel
theorem dX4_priceOf_1 : decode cX4_priceOf 1 = .ok (.getfield 15, 3) := by decide +kernel
theorem dX4_priceOf_4 : decode cX4_priceOf 4 = .ok (.iload_n 1, 1) := by decide +kernel
theorem dX4_priceOf_5 : decode cX4_priceOf 5 = .ok (.iload_n 2, 1) := by decide +kernel
theorem dX4_priceOf_6 : decode cX4_priceOf 6 = .ok (.invokestatic 21, 3) := by decide +kernel
theorem dX4_priceOf_9 : decode cX4_priceOf 9 = .ok (.iaload, 1) := by decide +kernel
theorem dX4_priceOf_10 : decode cX4_priceOf 10 = .ok (.ireturn, 1) := by decide +kernel
set_option maxRecDepth 20000 in
theorem ggX4_sleepersOf_X4_row : GoodIn wsX4_sleepersOf wsX4_row := goodIn_r _ [5] (by decide +kernel) (by decide +kernel)
set_option maxRecDepth 20000 in
theorem gX4_sleepersOf_X4_row : GoodIn wsX4_sleepersOf (va_wsS RX4 21 yX4_row wsX4_row) := goodIn_app (goodIn_of _ (by decide +kernel)) ggX4_sleepersOf_X4_row
theorem dX4_sleepersOf_0 : decode cX4_sleepersOf 0 = .ok (.aload_n 0, 1) := by decide +kernel
theorem dX4_sleepersOf_1 : decode cX4_sleepersOf 1 = .ok (.getfield 18, 3) := by decide +kernel
theorem dX4_sleepersOf_4 : decode cX4_sleepersOf 4 = .ok (.iload_n 1, 1) := by decide +kernel
theorem dX4_sleepersOf_5 : decode cX4_sleepersOf 5 = .ok (.iload_n 2, 1) := by decide +kernel
theorem dX4_sleepersOf_6 : decode cX4_sleepersOf 6 = .ok (.invokestatic 21, 3) := by decide +kernel
theorem dX4_sleepersOf_9 : decode cX4_sleepersOf 9 = .ok (.iaload, 1) := by decide +kernel
theorem dX4_sleepersOf_10 : decode cX4_sleepersOf 10 = .ok (.ireturn, 1) := by decide +kernel
set_option maxRecDepth 20000 in
theorem ggX4_freeOf_X4_countOf : GoodIn wsX4_freeOf wsX4_countOf := goodIn_r _ [9, 10, 11, 12, 8, 13, 19, 20, 21] (by decide +kernel) (by decide +kernel)
set_option maxRecDepth 20000 in
theorem gX4_freeOf_X4_countOf : GoodIn wsX4_freeOf (wsV RX4 25 RX4 yX4_countOf wsX4_countOf) := goodIn_app (goodIn_of _ (by decide +kernel)) ggX4_freeOf_X4_countOf
set_option maxRecDepth 20000 in
theorem ggX4_freeOf_X4_sleepersOf : GoodIn wsX4_freeOf wsX4_sleepersOf := goodIn_r _ [17, 18, 11, 12, 8, 13, 19, 20, 21] (by decide +kernel) (by decide +kernel)
set_option maxRecDepth 20000 in
theorem gX4_freeOf_X4_sleepersOf : GoodIn wsX4_freeOf (wsV RX4 28 RX4 yX4_sleepersOf wsX4_sleepersOf) := goodIn_app (goodIn_of _ (by decide +kernel)) ggX4_freeOf_X4_sleepersOf
theorem dX4_freeOf_0 : decode cX4_freeOf 0 = .ok (.iconst 0, 1) := by decide +kernel
theorem dX4_freeOf_1 : decode cX4_freeOf 1 = .ok (.aload_n 0, 1) := by decide +kernel
theorem dX4_freeOf_2 : decode cX4_freeOf 2 = .ok (.iload_n 1, 1) := by decide +kernel
theorem dX4_freeOf_3 : decode cX4_freeOf 3 = .ok (.iload_n 2, 1) := by decide +kernel
theorem dX4_freeOf_4 : decode cX4_freeOf 4 = .ok (.invokevirtual 25, 3) := by decide +kernel
theorem dX4_freeOf_7 : decode cX4_freeOf 7 = .ok (.aload_n 0, 1) := by decide +kernel
theorem dX4_freeOf_8 : decode cX4_freeOf 8 = .ok (.iload_n 1, 1) := by decide +kernel
theorem dX4_freeOf_9 : decode cX4_freeOf 9 = .ok (.iload_n 2, 1) := by decide +kernel
theorem dX4_freeOf_10 : decode cX4_freeOf 10 = .ok (.invokevirtual 28, 3) := by decide +kernel
theorem dX4_freeOf_13 : decode cX4_freeOf 13 = .ok (.isub, 1) := by decide +kernel
theorem dX4_freeOf_14 : decode cX4_freeOf 14 = .ok (.invokestatic 31, 3) := by decide +kernel
theorem dX4_freeOf_17 : decode cX4_freeOf 17 = .ok (.ireturn, 1) := by decide +kernel
set_option maxRecDepth 20000 in
theorem ggX4_change_X4_row : GoodIn wsX4_change wsX4_row := goodIn_r _ [6] (by decide +kernel) (by decide +kernel)
set_option maxRecDepth 20000 in
theorem gX4_change_X4_row : GoodIn wsX4_change (va_wsS RX4 21 yX4_row wsX4_row) := goodIn_app (goodIn_of _ (by decide +kernel)) ggX4_change_X4_row
theorem dX4_change_0 : decode cX4_change 0 = .ok (.iload_n 1, 1) := by decide +kernel
theorem dX4_change_1 : decode cX4_change 1 = .ok (.iload_n 2, 1) := by decide +kernel
theorem dX4_change_2 : decode cX4_change 2 = .ok (.invokestatic 21, 3) := by decide +kernel
theorem dX4_change_5 : decode cX4_change 5 = .ok (.istore 5, 2) := by decide +kernel
theorem dX4_change_7 : decode cX4_change 7 = .ok (.aload_n 0, 1) := by decide +kernel
theorem dX4_change_8 : decode cX4_change 8 = .ok (.getfield 9, 3) := by decide +kernel
theorem dX4_change_11 : decode cX4_change 11 = .ok (.iload 5, 2) := by decide +kernel
theorem dX4_change_13 : decode cX4_change 13 = .ok (.iaload, 1) := by decide +kernel
theorem dX4_change_14 : decode cX4_change 14 = .ok (.istore 6, 2) := by decide +kernel
theorem dX4_change_16 : decode cX4_change 16 = .ok (.aload_n 0, 1) := by decide +kernel
theorem dX4_change_17 : decode cX4_change 17 = .ok (.getfield 9, 3) := by decide +kernel
theorem dX4_change_20 : decode cX4_change 20 = .ok (.iload 5, 2) := by decide +kernel
theorem dX4_change_22 : decode cX4_change 22 = .ok (.iload_n 3, 1) := by decide +kernel
theorem dX4_change_23 : decode cX4_change 23 = .ok (.iastore, 1) := by decide +kernel
theorem dX4_change_24 : decode cX4_change 24 = .ok (.aload_n 0, 1) := by decide +kernel
theorem dX4_change_25 : decode cX4_change 25 = .ok (.getfield 15, 3) := by decide +kernel
theorem dX4_change_28 : decode cX4_change 28 = .ok (.iload 5, 2) := by decide +kernel
theorem dX4_change_30 : decode cX4_change 30 = .ok (.iload 4, 2) := by decide +kernel
theorem dX4_change_32 : decode cX4_change 32 = .ok (.iastore, 1) := by decide +kernel
theorem dX4_change_33 : decode cX4_change 33 = .ok (.iload 6, 2) := by decide +kernel
theorem dX4_change_35 : decode cX4_change 35 = .ok (.ireturn, 1) := by decide +kernel
set_option maxRecDepth 20000 in
theorem ggX4_addSleeper_X4_row : GoodIn wsX4_addSleeper wsX4_row := goodIn_r _ [5] (by decide +kernel) (by decide +kernel)
set_option maxRecDepth 20000 in
theorem gX4_addSleeper_X4_row : GoodIn wsX4_addSleeper (va_wsS RX4 21 yX4_row wsX4_row) := goodIn_app (goodIn_of _ (by decide +kernel)) ggX4_addSleeper_X4_row
theorem dX4_addSleeper_0 : decode cX4_addSleeper 0 = .ok (.aload_n 0, 1) := by decide +kernel
theorem dX4_addSleeper_1 : decode cX4_addSleeper 1 = .ok (.getfield 18, 3) := by decide +kernel
theorem dX4_addSleeper_4 : decode cX4_addSleeper 4 = .ok (.iload_n 1, 1) := by decide +kernel
theorem dX4_addSleeper_5 : decode cX4_addSleeper 5 = .ok (.iload_n 2, 1) := by decide +kernel
theorem dX4_addSleeper_6 : decode cX4_addSleeper 6 = .ok (.invokestatic 21, 3) := by decide +kernel
theorem dX4_addSleeper_9 : decode cX4_addSleeper 9 = .ok (.dup2, 1) := by decide +kernel
theorem dX4_addSleeper_10 : decode cX4_addSleeper 10 = .ok (.iaload, 1) := by decide +kernel
theorem dX4_addSleeper_11 : decode cX4_addSleeper 11 = .ok (.iconst 1, 1) := by decide +kernel
theorem dX4_addSleeper_12 : decode cX4_addSleeper 12 = .ok (.iadd, 1) := by decide +kernel
theorem dX4_addSleeper_13 : decode cX4_addSleeper 13 = .ok (.iastore, 1) := by decide +kernel
theorem dX4_addSleeper_14 : decode cX4_addSleeper 14 = .ok (.return_, 1) := by decide +kernel
theorem dX4_endNight_0 : decode cX4_endNight 0 = .ok (.iconst 0, 1) := by decide +kernel
theorem dX4_endNight_1 : decode cX4_endNight 1 = .ok (.istore_n 1, 1) := by decide +kernel
theorem dX4_endNight_2 : decode cX4_endNight 2 = .ok (.iload_n 1, 1) := by decide +kernel
theorem dX4_endNight_3 : decode cX4_endNight 3 = .ok (.bipush 8, 2) := by decide +kernel
theorem dX4_endNight_5 : decode cX4_endNight 5 = .ok (.if_icmp .ge 16, 3) := by decide +kernel
theorem dX4_endNight_8 : decode cX4_endNight 8 = .ok (.aload_n 0, 1) := by decide +kernel
theorem dX4_endNight_9 : decode cX4_endNight 9 = .ok (.getfield 18, 3) := by decide +kernel
theorem dX4_endNight_12 : decode cX4_endNight 12 = .ok (.iload_n 1, 1) := by decide +kernel
theorem dX4_endNight_13 : decode cX4_endNight 13 = .ok (.iconst 0, 1) := by decide +kernel
theorem dX4_endNight_14 : decode cX4_endNight 14 = .ok (.iastore, 1) := by decide +kernel
theorem dX4_endNight_15 : decode cX4_endNight 15 = .ok (.iinc 1 1, 3) := by decide +kernel
theorem dX4_endNight_18 : decode cX4_endNight 18 = .ok (.goto (-16), 3) := by decide +kernel
theorem dX4_endNight_21 : decode cX4_endNight 21 = .ok (.return_, 1) := by decide +kernel
set_option maxRecDepth 20000 in
theorem ggX5_init_X4_init : GoodIn wsX5_init wsX4_init := goodIn_r _ [27, 28, 2, 3, 29, 30, 31, 32, 70, 71, 72] (by decide +kernel) (by decide +kernel)
set_option maxRecDepth 20000 in
theorem gX5_init_X4_init : GoodIn wsX5_init (wsX4_init) := ggX5_init_X4_init
set_option maxRecDepth 20000 in
theorem ggX5_init_X2_init : GoodIn wsX5_init wsX2_init := goodIn_r _ [35, 36, 2, 3, 29, 37, 38, 39, 40, 41, 42, 43, 79, 80, 81, 82, 83, 84, 85] (by decide +kernel) (by decide +kernel)
set_option maxRecDepth 20000 in
theorem gX5_init_X2_init : GoodIn wsX5_init (wsX2_init) := ggX5_init_X2_init
set_option maxRecDepth 20000 in
theorem ggX5_init_X0_init : GoodIn wsX5_init wsX0_init := goodIn_r _ [46, 47, 2, 3, 29, 48, 49, 50, 51, 52, 53, 54, 55, 86, 87, 88, 89, 90, 91, 92] (by decide +kernel) (by decide +kernel)
set_option maxRecDepth 20000 in
theorem gX5_init_X0_init : GoodIn wsX5_init (wsX0_init) := ggX5_init_X0_init
set_option maxRecDepth 20000 in
theorem ggX5_init_X3_init : GoodIn wsX5_init wsX3_init := goodIn_r _ [58, 59, 2, 3, 29, 60, 61, 62, 63, 93, 94, 95, 96] (by decide +kernel) (by decide +kernel)
set_option maxRecDepth 20000 in
theorem gX5_init_X3_init : GoodIn wsX5_init (wsX3_init) := ggX5_init_X3_init
set_option maxRecDepth 20000 in
theorem ggX5_init_X1_init : GoodIn wsX5_init wsX1_init := goodIn_r _ [66, 67, 2, 3, 29, 68, 69, 97, 98] (by decide +kernel) (by decide +kernel)
set_option maxRecDepth 20000 in
theorem gX5_init_X1_init : GoodIn wsX5_init (wsX1_init) := ggX5_init_X1_init
theorem dX5_init_0 : decode cX5_init 0 = .ok (.aload_n 0, 1) := by decide +kernel
theorem dX5_init_1 : decode cX5_init 1 = .ok (.invokespecial 1, 3) := by decide +kernel
theorem dX5_init_4 : decode cX5_init 4 = .ok (.aload_n 0, 1) := by decide +kernel
theorem dX5_init_5 : decode cX5_init 5 = .ok (.new 7, 3) := by decide +kernel
theorem dX5_init_8 : decode cX5_init 8 = .ok (.dup, 1) := by decide +kernel
theorem dX5_init_9 : decode cX5_init 9 = .ok (.invokespecial 9, 3) := by decide +kernel
theorem dX5_init_12 : decode cX5_init 12 = .ok (.putfield 10, 3) := by decide +kernel
theorem dX5_init_15 : decode cX5_init 15 = .ok (.aload_n 0, 1) := by decide +kernel
theorem dX5_init_16 : decode cX5_init 16 = .ok (.new 16, 3) := by decide +kernel
theorem dX5_init_19 : decode cX5_init 19 = .ok (.dup, 1) := by decide +kernel
theorem dX5_init_20 : decode cX5_init 20 = .ok (.invokespecial 18, 3) := by decide +kernel
theorem dX5_init_23 : decode cX5_init 23 = .ok (.putfield 19, 3) := by decide +kernel
theorem dX5_init_26 : decode cX5_init 26 = .ok (.aload_n 0, 1) := by decide +kernel
theorem dX5_init_27 : decode cX5_init 27 = .ok (.new 23, 3) := by decide +kernel
theorem dX5_init_30 : decode cX5_init 30 = .ok (.dup, 1) := by decide +kernel
theorem dX5_init_31 : decode cX5_init 31 = .ok (.invokespecial 25, 3) := by decide +kernel
theorem dX5_init_34 : decode cX5_init 34 = .ok (.putfield 26, 3) := by decide +kernel
theorem dX5_init_37 : decode cX5_init 37 = .ok (.aload_n 0, 1) := by decide +kernel
theorem dX5_init_38 : decode cX5_init 38 = .ok (.new 30, 3) := by decide +kernel
theorem dX5_init_41 : decode cX5_init 41 = .ok (.dup, 1) := by decide +kernel
theorem dX5_init_42 : decode cX5_init 42 = .ok (.invokespecial 32, 3) := by decide +kernel
theorem dX5_init_45 : decode cX5_init 45 = .ok (.putfield 33, 3) := by decide +kernel
theorem dX5_init_48 : decode cX5_init 48 = .ok (.aload_n 0, 1) := by decide +kernel
theorem dX5_init_49 : decode cX5_init 49 = .ok (.new 37, 3) := by decide +kernel
theorem dX5_init_52 : decode cX5_init 52 = .ok (.dup, 1) := by decide +kernel
theorem dX5_init_53 : decode cX5_init 53 = .ok (.invokespecial 39, 3) := by decide +kernel
theorem dX5_init_56 : decode cX5_init 56 = .ok (.putfield 40, 3) := by decide +kernel
theorem dX5_init_59 : decode cX5_init 59 = .ok (.aload_n 0, 1) := by decide +kernel
theorem dX5_init_60 : decode cX5_init 60 = .ok (.iconst 0, 1) := by decide +kernel
theorem dX5_init_61 : decode cX5_init 61 = .ok (.putfield 44, 3) := by decide +kernel
theorem dX5_init_64 : decode cX5_init 64 = .ok (.return_, 1) := by decide +kernel
set_option maxRecDepth 20000 in
theorem ggX5_setRooms_X5_checkInn : GoodIn wsX5_setRooms wsX5_checkInn := goodIn_ca (goodIn_r _ [5, 6, 7] (by decide +kernel) (by decide +kernel)) (goodIn_sub (fun _ h => List.mem_cons_of_mem _ (List.mem_append_left _ (List.mem_append_right _ h))) (by decide +kernel))
set_option maxRecDepth 20000 in
theorem gX5_setRooms_X5_checkInn : GoodIn wsX5_setRooms (va_wsS RX5 48 yX5_checkInn wsX5_checkInn) := goodIn_app (goodIn_of _ (by decide +kernel)) ggX5_setRooms_X5_checkInn
set_option maxRecDepth 20000 in
theorem ggX5_setRooms_X5_checkKind : GoodIn wsX5_setRooms wsX5_checkKind := goodIn_ca (goodIn_r _ [10, 6, 7] (by decide +kernel) (by decide +kernel)) (goodIn_sub (fun _ h => List.mem_cons_of_mem _ (List.mem_append_left _ (List.mem_append_right _ h))) (by decide +kernel))
set_option maxRecDepth 20000 in
theorem gX5_setRooms_X5_checkKind : GoodIn wsX5_setRooms (va_wsS RX5 52 yX5_checkKind wsX5_checkKind) := goodIn_app (goodIn_of _ (by decide +kernel)) ggX5_setRooms_X5_checkKind
set_option maxRecDepth 20000 in
theorem ggX5_setRooms_X5_checkRange : GoodIn wsX5_setRooms wsX5_checkRange := goodIn_ca (goodIn_r _ [13, 14, 15] (by decide +kernel) (by decide +kernel)) (goodIn_sub (fun _ h => List.mem_cons_of_mem _ (List.mem_append_right _ h)) (by decide +kernel))
set_option maxRecDepth 20000 in
theorem gX5_setRooms_X5_checkRange : GoodIn wsX5_setRooms (va_wsS RX5 55 yX5_checkRange wsX5_checkRange) := goodIn_app (goodIn_of _ (by decide +kernel)) ggX5_setRooms_X5_checkRange
set_option maxRecDepth 20000 in
theorem ggX5_setRooms_X4_change : GoodIn wsX5_setRooms wsX4_change := goodIn_r _ [20, 21, 22, 23, 24, 19, 25, 32, 33, 34] (by decide +kernel) (by decide +kernel)
set_option maxRecDepth 20000 in
theorem gX5_setRooms_X4_change : GoodIn wsX5_setRooms (wsV RX5 59 RX4 yX4_change wsX4_change) := goodIn_app (goodIn_of _ (by decide +kernel)) ggX5_setRooms_X4_change
theorem dX5_setRooms_0 : decode cX5_setRooms 0 = .ok (.iload_n 1, 1) := by decide +kernel
theorem dX5_setRooms_1 : decode cX5_setRooms 1 = .ok (.invokestatic 48, 3) := by decide +kernel
theorem dX5_setRooms_4 : decode cX5_setRooms 4 = .ok (.iload_n 2, 1) := by decide +kernel
theorem dX5_setRooms_5 : decode cX5_setRooms 5 = .ok (.invokestatic 52, 3) := by decide +kernel
theorem dX5_setRooms_8 : decode cX5_setRooms 8 = .ok (.iload_n 3, 1) := by decide +kernel
theorem dX5_setRooms_9 : decode cX5_setRooms 9 = .ok (.iconst 0, 1) := by decide +kernel
theorem dX5_setRooms_10 : decode cX5_setRooms 10 = .ok (.bipush 10, 2) := by decide +kernel
theorem dX5_setRooms_12 : decode cX5_setRooms 12 = .ok (.invokestatic 55, 3) := by decide +kernel
theorem dX5_setRooms_15 : decode cX5_setRooms 15 = .ok (.iload 4, 2) := by decide +kernel
theorem dX5_setRooms_17 : decode cX5_setRooms 17 = .ok (.iconst 1, 1) := by decide +kernel
theorem dX5_setRooms_18 : decode cX5_setRooms 18 = .ok (.bipush 100, 2) := by decide +kernel
theorem dX5_setRooms_20 : decode cX5_setRooms 20 = .ok (.invokestatic 55, 3) := by decide +kernel
theorem dX5_setRooms_23 : decode cX5_setRooms 23 = .ok (.aload_n 0, 1) := by decide +kernel
theorem dX5_setRooms_24 : decode cX5_setRooms 24 = .ok (.getfield 10, 3) := by decide +kernel
theorem dX5_setRooms_27 : decode cX5_setRooms 27 = .ok (.iload_n 1, 1) := by decide +kernel
theorem dX5_setRooms_28 : decode cX5_setRooms 28 = .ok (.iload_n 2, 1) := by decide +kernel
theorem dX5_setRooms_29 : decode cX5_setRooms 29 = .ok (.iload_n 3, 1) := by decide +kernel
theorem dX5_setRooms_30 : decode cX5_setRooms 30 = .ok (.iload 4, 2) := by decide +kernel
theorem dX5_setRooms_32 : decode cX5_setRooms 32 = .ok (.invokevirtual 59, 3) := by decide +kernel
theorem dX5_setRooms_35 : decode cX5_setRooms 35 = .ok (.ireturn, 1) := by decide +kernel
set_option maxRecDepth 20000 in
theorem ggX5_buyLinen_X5_checkInn : GoodIn wsX5_buyLinen wsX5_checkInn := goodIn_ca (goodIn_r _ [5, 6, 7] (by decide +kernel) (by decide +kernel)) (goodIn_sub (fun _ h => List.mem_cons_of_mem _ (List.mem_append_left _ (List.mem_append_right _ h))) (by decide +kernel))
set_option maxRecDepth 20000 in
theorem gX5_buyLinen_X5_checkInn : GoodIn wsX5_buyLinen (va_wsS RX5 48 yX5_checkInn wsX5_checkInn) := goodIn_app (goodIn_of _ (by decide +kernel)) ggX5_buyLinen_X5_checkInn
set_option maxRecDepth 20000 in
theorem ggX5_buyLinen_X5_checkRange : GoodIn wsX5_buyLinen wsX5_checkRange := goodIn_ca (goodIn_r _ [10, 11, 12] (by decide +kernel) (by decide +kernel)) (goodIn_sub (fun _ h => List.mem_cons_of_mem _ (List.mem_append_right _ h)) (by decide +kernel))
set_option maxRecDepth 20000 in
theorem gX5_buyLinen_X5_checkRange : GoodIn wsX5_buyLinen (va_wsS RX5 55 yX5_checkRange wsX5_checkRange) := goodIn_app (goodIn_of _ (by decide +kernel)) ggX5_buyLinen_X5_checkRange
set_option maxRecDepth 20000 in
theorem ggX5_buyLinen_X2_addClean : GoodIn wsX5_buyLinen wsX2_addClean := goodIn_r _ [17, 18, 25, 26, 27, 28, 29, 30, 31] (by decide +kernel) (by decide +kernel)
set_option maxRecDepth 20000 in
theorem gX5_buyLinen_X2_addClean : GoodIn wsX5_buyLinen (wsV RX5 63 RX2 yX2_addClean wsX2_addClean) := goodIn_app (goodIn_of _ (by decide +kernel)) ggX5_buyLinen_X2_addClean
theorem dX5_buyLinen_0 : decode cX5_buyLinen 0 = .ok (.iload_n 1, 1) := by decide +kernel
theorem dX5_buyLinen_1 : decode cX5_buyLinen 1 = .ok (.invokestatic 48, 3) := by decide +kernel
theorem dX5_buyLinen_4 : decode cX5_buyLinen 4 = .ok (.iload_n 2, 1) := by decide +kernel
theorem dX5_buyLinen_5 : decode cX5_buyLinen 5 = .ok (.iconst 1, 1) := by decide +kernel
theorem dX5_buyLinen_6 : decode cX5_buyLinen 6 = .ok (.bipush 20, 2) := by decide +kernel
theorem dX5_buyLinen_8 : decode cX5_buyLinen 8 = .ok (.invokestatic 55, 3) := by decide +kernel
theorem dX5_buyLinen_11 : decode cX5_buyLinen 11 = .ok (.aload_n 0, 1) := by decide +kernel
theorem dX5_buyLinen_12 : decode cX5_buyLinen 12 = .ok (.getfield 19, 3) := by decide +kernel
theorem dX5_buyLinen_15 : decode cX5_buyLinen 15 = .ok (.iload_n 1, 1) := by decide +kernel
theorem dX5_buyLinen_16 : decode cX5_buyLinen 16 = .ok (.iload_n 2, 1) := by decide +kernel
theorem dX5_buyLinen_17 : decode cX5_buyLinen 17 = .ok (.invokevirtual 63, 3) := by decide +kernel
theorem dX5_buyLinen_20 : decode cX5_buyLinen 20 = .ok (.ireturn, 1) := by decide +kernel
set_option maxRecDepth 20000 in
theorem ggX5_setBroken_X2_changeBroken : GoodIn wsX5_setBroken wsX2_changeBroken := goodIn_r _ [6, 7, 14, 15, 16, 17, 18, 19, 20] (by decide +kernel) (by decide +kernel)
set_option maxRecDepth 20000 in
theorem gX5_setBroken_X2_changeBroken : GoodIn wsX5_setBroken (wsV RX5 67 RX2 yX2_changeBroken wsX2_changeBroken) := goodIn_app (goodIn_of _ (by decide +kernel)) ggX5_setBroken_X2_changeBroken
theorem dX5_setBroken_0 : decode cX5_setBroken 0 = .ok (.aload_n 0, 1) := by decide +kernel
theorem dX5_setBroken_1 : decode cX5_setBroken 1 = .ok (.getfield 19, 3) := by decide +kernel
theorem dX5_setBroken_4 : decode cX5_setBroken 4 = .ok (.iload_n 1, 1) := by decide +kernel
theorem dX5_setBroken_5 : decode cX5_setBroken 5 = .ok (.invokevirtual 67, 3) := by decide +kernel
theorem dX5_setBroken_8 : decode cX5_setBroken 8 = .ok (.ireturn, 1) := by decide +kernel
set_option maxRecDepth 20000 in
theorem ggX5_book_X5_checkGuest : GoodIn wsX5_book wsX5_checkGuest := goodIn_ca (goodIn_r _ [8, 9, 10] (by decide +kernel) (by decide +kernel)) (goodIn_sub (fun _ h => List.mem_cons_of_mem _ (List.mem_append_left _ (List.mem_append_right _ h))) (by decide +kernel))
set_option maxRecDepth 20000 in
theorem gX5_book_X5_checkGuest : GoodIn wsX5_book (va_wsS RX5 71 yX5_checkGuest wsX5_checkGuest) := goodIn_app (goodIn_of _ (by decide +kernel)) ggX5_book_X5_checkGuest
set_option maxRecDepth 20000 in
theorem ggX5_book_X5_checkInn : GoodIn wsX5_book wsX5_checkInn := goodIn_ca (goodIn_r _ [13, 9, 10] (by decide +kernel) (by decide +kernel)) (goodIn_sub (fun _ h => List.mem_cons_of_mem _ (List.mem_append_left _ (List.mem_append_right _ h))) (by decide +kernel))
set_option maxRecDepth 20000 in
theorem gX5_book_X5_checkInn : GoodIn wsX5_book (va_wsS RX5 48 yX5_checkInn wsX5_checkInn) := goodIn_app (goodIn_of _ (by decide +kernel)) ggX5_book_X5_checkInn
set_option maxRecDepth 20000 in
theorem ggX5_book_X5_checkKind : GoodIn wsX5_book wsX5_checkKind := goodIn_ca (goodIn_r _ [16, 9, 10] (by decide +kernel) (by decide +kernel)) (goodIn_sub (fun _ h => List.mem_cons_of_mem _ (List.mem_append_left _ (List.mem_append_right _ h))) (by decide +kernel))
set_option maxRecDepth 20000 in
theorem gX5_book_X5_checkKind : GoodIn wsX5_book (va_wsS RX5 52 yX5_checkKind wsX5_checkKind) := goodIn_app (goodIn_of _ (by decide +kernel)) ggX5_book_X5_checkKind
set_option maxRecDepth 20000 in
theorem ggX5_book_X5_checkRange : GoodIn wsX5_book wsX5_checkRange := goodIn_ca (goodIn_r _ [19, 20, 21] (by decide +kernel) (by decide +kernel)) (goodIn_sub (fun _ h => List.mem_cons_of_mem _ (List.mem_append_right _ h)) (by decide +kernel))
set_option maxRecDepth 20000 in
theorem gX5_book_X5_checkRange : GoodIn wsX5_book (va_wsS RX5 55 yX5_checkRange wsX5_checkRange) := goodIn_app (goodIn_of _ (by decide +kernel)) ggX5_book_X5_checkRange
set_option maxRecDepth 20000 in
theorem ggX5_book_X0_isFull : GoodIn wsX5_book wsX0_isFull := goodIn_r _ [26, 27, 70, 71, 72, 73, 74, 75, 76] (by decide +kernel) (by decide +kernel)
set_option maxRecDepth 20000 in
theorem gX5_book_X0_isFull : GoodIn wsX5_book (wsV RX5 74 RX0 yX0_isFull wsX0_isFull) := goodIn_app (goodIn_of _ (by decide +kernel)) ggX5_book_X0_isFull
set_option maxRecDepth 20000 in
theorem ggX5_book_X5_takesMore : GoodIn wsX5_book wsX5_takesMore := goodIn_r _ [31, 4, 32, 33, 34, 35, 25, 36, 27, 37, 38, 39, 40, 41, 42, 43, 44, 45, 46, 47, 48, 49, 50, 51, 7, 52, 3, 53, 54, 55, 56, 57, 64, 65, 66, 67, 68, 69, 70, 71, 72, 73, 74, 75, 76, 77, 78, 79] (by decide +kernel) (by decide +kernel)
set_option maxRecDepth 20000 in
theorem gX5_book_X5_takesMore : GoodIn wsX5_book (wsV RX5 78 RX5 yX5_takesMore wsX5_takesMore) := goodIn_app (goodIn_of _ (by decide +kernel)) ggX5_book_X5_takesMore
set_option maxRecDepth 20000 in
theorem ggX5_book_X0_add : GoodIn wsX5_book wsX0_add := goodIn_r _ [61, 27, 62, 37, 38, 39, 63, 70, 71, 72, 73, 74, 75, 76] (by decide +kernel) (by decide +kernel)
set_option maxRecDepth 20000 in
theorem gX5_book_X0_add : GoodIn wsX5_book (wsV RX5 89 RX0 yX0_add wsX0_add) := goodIn_app (goodIn_of _ (by decide +kernel)) ggX5_book_X0_add
theorem dX5_book_0 : decode cX5_book 0 = .ok (.iload_n 1, 1) := by decide +kernel
theorem dX5_book_1 : decode cX5_book 1 = .ok (.invokestatic 71, 3) := by decide +kernel
theorem dX5_book_4 : decode cX5_book 4 = .ok (.iload_n 2, 1) := by decide +kernel
theorem dX5_book_5 : decode cX5_book 5 = .ok (.invokestatic 48, 3) := by decide +kernel
theorem dX5_book_8 : decode cX5_book 8 = .ok (.iload_n 3, 1) := by decide +kernel
theorem dX5_book_9 : decode cX5_book 9 = .ok (.invokestatic 52, 3) := by decide +kernel
theorem dX5_book_12 : decode cX5_book 12 = .ok (.iload 4, 2) := by decide +kernel
theorem dX5_book_14 : decode cX5_book 14 = .ok (.aload_n 0, 1) := by decide +kernel
theorem dX5_book_15 : decode cX5_book 15 = .ok (.getfield 44, 3) := by decide +kernel
theorem dX5_book_18 : decode cX5_book 18 = .ok (.aload_n 0, 1) := by decide +kernel
theorem dX5_book_19 : decode cX5_book 19 = .ok (.getfield 44, 3) := by decide +kernel
theorem dX5_book_22 : decode cX5_book 22 = .ok (.bipush 10, 2) := by decide +kernel
theorem dX5_book_24 : decode cX5_book 24 = .ok (.iadd, 1) := by decide +kernel
theorem dX5_book_25 : decode cX5_book 25 = .ok (.invokestatic 55, 3) := by decide +kernel
theorem dX5_book_28 : decode cX5_book 28 = .ok (.aload_n 0, 1) := by decide +kernel
theorem dX5_book_29 : decode cX5_book 29 = .ok (.getfield 26, 3) := by decide +kernel
theorem dX5_book_32 : decode cX5_book 32 = .ok (.invokevirtual 74, 3) := by decide +kernel
theorem dX5_book_35 : decode cX5_book 35 = .ok (.ifCond .ne 14, 3) := by decide +kernel
theorem dX5_book_38 : decode cX5_book 38 = .ok (.aload_n 0, 1) := by decide +kernel
theorem dX5_book_39 : decode cX5_book 39 = .ok (.iload_n 2, 1) := by decide +kernel
theorem dX5_book_40 : decode cX5_book 40 = .ok (.iload_n 3, 1) := by decide +kernel
theorem dX5_book_41 : decode cX5_book 41 = .ok (.iload 4, 2) := by decide +kernel
theorem dX5_book_43 : decode cX5_book 43 = .ok (.invokevirtual 78, 3) := by decide +kernel
theorem dX5_book_46 : decode cX5_book 46 = .ok (.ifCond .ne 13, 3) := by decide +kernel
theorem dX5_book_49 : decode cX5_book 49 = .ok (.new 82, 3) := by decide +kernel
theorem dX5_book_52 : decode cX5_book 52 = .ok (.dup, 1) := by decide +kernel
theorem dX5_book_53 : decode cX5_book 53 = .ok (.ldc 84, 2) := by decide +kernel
theorem dX5_book_55 : decode cX5_book 55 = .ok (.invokespecial 86, 3) := by decide +kernel
theorem dX5_book_58 : decode cX5_book 58 = .ok (.athrow, 1) := by decide +kernel
theorem dX5_book_59 : decode cX5_book 59 = .ok (.aload_n 0, 1) := by decide +kernel
theorem dX5_book_60 : decode cX5_book 60 = .ok (.getfield 26, 3) := by decide +kernel
theorem dX5_book_63 : decode cX5_book 63 = .ok (.iload_n 1, 1) := by decide +kernel
theorem dX5_book_64 : decode cX5_book 64 = .ok (.iload_n 2, 1) := by decide +kernel
theorem dX5_book_65 : decode cX5_book 65 = .ok (.iload_n 3, 1) := by decide +kernel
theorem dX5_book_66 : decode cX5_book 66 = .ok (.iload 4, 2) := by decide +kernel
theorem dX5_book_68 : decode cX5_book 68 = .ok (.invokevirtual 89, 3) := by decide +kernel
theorem dX5_book_71 : decode cX5_book 71 = .ok (.ireturn, 1) := by decide +kernel
set_option maxRecDepth 20000 in
theorem ggX5_come_X5_checkBooking : GoodIn wsX5_come wsX5_checkBooking := goodIn_ca (goodIn_r _ [13, 14, 15, 3, 16, 120, 121, 122, 123, 124, 125, 126, 127, 128, 129, 130, 131, 132] (by decide +kernel) (by decide +kernel)) (goodIn_sub (fun _ h => List.mem_cons_of_mem _ (List.mem_append_right _ h)) (by decide +kernel))
set_option maxRecDepth 20000 in
theorem gX5_come_X5_checkBooking : GoodIn wsX5_come (wsV RX5 92 RX5 yX5_checkBooking wsX5_checkBooking) := goodIn_app (goodIn_of _ (by decide +kernel)) ggX5_come_X5_checkBooking
set_option maxRecDepth 20000 in
theorem ggX5_come_X5_findInn : GoodIn wsX5_come wsX5_findInn := goodIn_r _ [20, 21, 22, 23, 24, 12, 25, 26, 27, 28, 29, 30, 31, 32, 33, 34, 35, 36, 37, 38, 39, 40, 41, 42, 43, 44, 45, 46, 47, 48, 49, 50, 51, 52, 53, 54, 55, 56, 57, 58, 59, 120, 121, 122, 123, 124, 125, 133, 134, 135, 136, 137, 138, 139, 140, 141, 142] (by decide +kernel) (by decide +kernel)
set_option maxRecDepth 20000 in
theorem gX5_come_X5_findInn : GoodIn wsX5_come (wsV RX5 111 RX5 yX5_findInn wsX5_findInn) := goodIn_app (goodIn_of _ (by decide +kernel)) ggX5_come_X5_findInn
set_option maxRecDepth 20000 in
theorem ggX5_come_X0_arrive : GoodIn wsX5_come wsX0_arrive := goodIn_r _ [64, 65, 66, 126, 127, 128, 129, 130, 131, 132] (by decide +kernel) (by decide +kernel)
set_option maxRecDepth 20000 in
theorem gX5_come_X0_arrive : GoodIn wsX5_come (wsV RX5 114 RX0 yX0_arrive wsX0_arrive) := goodIn_app (goodIn_of _ (by decide +kernel)) ggX5_come_X0_arrive
set_option maxRecDepth 20000 in
theorem ggX5_come_X5_putUp : GoodIn wsX5_come wsX5_putUp := goodIn_r _ [70, 3, 7, 8, 21, 71, 72, 73, 74, 75, 76, 36, 77, 78, 46, 47, 48, 79, 80, 81, 82, 83, 84, 85, 86, 87, 88, 89, 90, 91, 92, 93, 94, 95, 12, 96, 22, 54, 55, 56, 57, 58, 59, 97, 98, 99, 100, 101, 102, 103, 104, 105, 106, 107, 108, 109, 110, 53, 111, 112, 113, 114, 115, 116, 117, 118, 119, 120, 121, 122, 123, 124, 125, 126, 127, 128, 129, 130, 131, 132, 133, 134, 135, 143, 144, 136, 137, 138, 139, 140, 141, 142, 145, 146, 147, 148] (by decide +kernel) (by decide +kernel)
set_option maxRecDepth 20000 in
theorem gX5_come_X5_putUp : GoodIn wsX5_come (wsV RX5 118 RX5 yX5_putUp wsX5_putUp) := goodIn_app (goodIn_of _ (by decide +kernel)) ggX5_come_X5_putUp
theorem dX5_come_0 : decode cX5_come 0 = .ok (.aload_n 0, 1) := by decide +kernel
theorem dX5_come_1 : decode cX5_come 1 = .ok (.iload_n 1, 1) := by decide +kernel
theorem dX5_come_2 : decode cX5_come 2 = .ok (.invokevirtual 92, 3) := by decide +kernel
theorem dX5_come_5 : decode cX5_come 5 = .ok (.aload_n 0, 1) := by decide +kernel
theorem dX5_come_6 : decode cX5_come 6 = .ok (.getfield 26, 3) := by decide +kernel
theorem dX5_come_9 : decode cX5_come 9 = .ok (.getfield 95, 3) := by decide +kernel
theorem dX5_come_12 : decode cX5_come 12 = .ok (.iload_n 1, 1) := by decide +kernel
theorem dX5_come_13 : decode cX5_come 13 = .ok (.iaload, 1) := by decide +kernel
theorem dX5_come_14 : decode cX5_come 14 = .ok (.aload_n 0, 1) := by decide +kernel
theorem dX5_come_15 : decode cX5_come 15 = .ok (.getfield 44, 3) := by decide +kernel
theorem dX5_come_18 : decode cX5_come 18 = .ok (.if_icmp .ne 15, 3) := by decide +kernel
theorem dX5_come_21 : decode cX5_come 21 = .ok (.aload_n 0, 1) := by decide +kernel
theorem dX5_come_22 : decode cX5_come 22 = .ok (.getfield 26, 3) := by decide +kernel
theorem dX5_come_25 : decode cX5_come 25 = .ok (.getfield 99, 3) := by decide +kernel
theorem dX5_come_28 : decode cX5_come 28 = .ok (.iload_n 1, 1) := by decide +kernel
theorem dX5_come_29 : decode cX5_come 29 = .ok (.baload, 1) := by decide +kernel
theorem dX5_come_30 : decode cX5_come 30 = .ok (.ifCond .eq 13, 3) := by decide +kernel
theorem dX5_come_33 : decode cX5_come 33 = .ok (.new 82, 3) := by decide +kernel
theorem dX5_come_36 : decode cX5_come 36 = .ok (.dup, 1) := by decide +kernel
theorem dX5_come_37 : decode cX5_come 37 = .ok (.ldc 103, 2) := by decide +kernel
theorem dX5_come_39 : decode cX5_come 39 = .ok (.invokespecial 86, 3) := by decide +kernel
theorem dX5_come_42 : decode cX5_come 42 = .ok (.athrow, 1) := by decide +kernel
theorem dX5_come_43 : decode cX5_come 43 = .ok (.aload_n 0, 1) := by decide +kernel
theorem dX5_come_44 : decode cX5_come 44 = .ok (.aload_n 0, 1) := by decide +kernel
theorem dX5_come_45 : decode cX5_come 45 = .ok (.getfield 26, 3) := by decide +kernel
theorem dX5_come_48 : decode cX5_come 48 = .ok (.getfield 105, 3) := by decide +kernel
theorem dX5_come_51 : decode cX5_come 51 = .ok (.iload_n 1, 1) := by decide +kernel
theorem dX5_come_52 : decode cX5_come 52 = .ok (.iaload, 1) := by decide +kernel
theorem dX5_come_53 : decode cX5_come 53 = .ok (.aload_n 0, 1) := by decide +kernel
theorem dX5_come_54 : decode cX5_come 54 = .ok (.getfield 26, 3) := by decide +kernel
theorem dX5_come_57 : decode cX5_come 57 = .ok (.getfield 108, 3) := by decide +kernel
theorem dX5_come_60 : decode cX5_come 60 = .ok (.iload_n 1, 1) := by decide +kernel
theorem dX5_come_61 : decode cX5_come 61 = .ok (.iaload, 1) := by decide +kernel
theorem dX5_come_62 : decode cX5_come 62 = .ok (.invokevirtual 111, 3) := by decide +kernel
theorem dX5_come_65 : decode cX5_come 65 = .ok (.istore_n 2, 1) := by decide +kernel
theorem dX5_come_66 : decode cX5_come 66 = .ok (.aload_n 0, 1) := by decide +kernel
theorem dX5_come_67 : decode cX5_come 67 = .ok (.getfield 26, 3) := by decide +kernel
theorem dX5_come_70 : decode cX5_come 70 = .ok (.iload_n 1, 1) := by decide +kernel
theorem dX5_come_71 : decode cX5_come 71 = .ok (.iload_n 2, 1) := by decide +kernel
theorem dX5_come_72 : decode cX5_come 72 = .ok (.invokevirtual 114, 3) := by decide +kernel
theorem dX5_come_75 : decode cX5_come 75 = .ok (.iload_n 2, 1) := by decide +kernel
theorem dX5_come_76 : decode cX5_come 76 = .ok (.iconst (-1), 1) := by decide +kernel
theorem dX5_come_77 : decode cX5_come 77 = .ok (.if_icmp .eq 9, 3) := by decide +kernel
theorem dX5_come_80 : decode cX5_come 80 = .ok (.aload_n 0, 1) := by decide +kernel
theorem dX5_come_81 : decode cX5_come 81 = .ok (.iload_n 1, 1) := by decide +kernel
theorem dX5_come_82 : decode cX5_come 82 = .ok (.iload_n 2, 1) := by decide +kernel
theorem dX5_come_83 : decode cX5_come 83 = .ok (.invokevirtual 118, 3) := by decide +kernel
theorem dX5_come_86 : decode cX5_come 86 = .ok (.iload_n 2, 1) := by decide +kernel
theorem dX5_come_87 : decode cX5_come 87 = .ok (.ireturn, 1) := by decide +kernel
set_option maxRecDepth 20000 in
theorem ggX5_burn_X5_checkGuest : GoodIn wsX5_burn wsX5_checkGuest := goodIn_ca (goodIn_r _ [7, 8, 9] (by decide +kernel) (by decide +kernel)) (goodIn_sub (fun _ h => List.mem_cons_of_mem _ (List.mem_append_left _ (List.mem_append_right _ h))) (by decide +kernel))
set_option maxRecDepth 20000 in
theorem gX5_burn_X5_checkGuest : GoodIn wsX5_burn (va_wsS RX5 71 yX5_checkGuest wsX5_checkGuest) := goodIn_app (goodIn_of _ (by decide +kernel)) ggX5_burn_X5_checkGuest
set_option maxRecDepth 20000 in
theorem ggX5_burn_X5_checkInn : GoodIn wsX5_burn wsX5_checkInn := goodIn_ca (goodIn_r _ [12, 8, 9] (by decide +kernel) (by decide +kernel)) (goodIn_sub (fun _ h => List.mem_cons_of_mem _ (List.mem_append_left _ (List.mem_append_right _ h))) (by decide +kernel))
set_option maxRecDepth 20000 in
theorem gX5_burn_X5_checkInn : GoodIn wsX5_burn (va_wsS RX5 48 yX5_checkInn wsX5_checkInn) := goodIn_app (goodIn_of _ (by decide +kernel)) ggX5_burn_X5_checkInn
set_option maxRecDepth 20000 in
theorem ggX5_burn_X5_checkRange : GoodIn wsX5_burn wsX5_checkRange := goodIn_ca (goodIn_r _ [15, 16, 17] (by decide +kernel) (by decide +kernel)) (goodIn_sub (fun _ h => List.mem_cons_of_mem _ (List.mem_append_right _ h)) (by decide +kernel))
set_option maxRecDepth 20000 in
theorem gX5_burn_X5_checkRange : GoodIn wsX5_burn (va_wsS RX5 55 yX5_checkRange wsX5_checkRange) := goodIn_app (goodIn_of _ (by decide +kernel)) ggX5_burn_X5_checkRange
set_option maxRecDepth 20000 in
theorem ggX5_burn_X3_ofGuest : GoodIn wsX5_burn wsX3_ofGuest := goodIn_r _ [22, 23, 24, 25, 56, 57, 58, 59] (by decide +kernel) (by decide +kernel)
set_option maxRecDepth 20000 in
theorem gX5_burn_X3_ofGuest : GoodIn wsX5_burn (wsV RX5 121 RX3 yX3_ofGuest wsX3_ofGuest) := goodIn_app (goodIn_of _ (by decide +kernel)) ggX5_burn_X3_ofGuest
set_option maxRecDepth 20000 in
theorem ggX5_burn_X5_burnEarliest : GoodIn wsX5_burn wsX5_burnEarliest := goodIn_r _ [29, 3, 30, 31, 32, 33, 34, 35, 21, 36, 24, 25, 37, 38, 39, 40, 41, 42, 43, 44, 45, 46, 47, 48, 49, 50, 51, 52, 53, 54, 55, 56, 57, 58, 59, 60, 61] (by decide +kernel) (by decide +kernel)
set_option maxRecDepth 20000 in
theorem gX5_burn_X5_burnEarliest : GoodIn wsX5_burn (wsV RX5 127 RX5 yX5_burnEarliest wsX5_burnEarliest) := goodIn_app (goodIn_of _ (by decide +kernel)) ggX5_burn_X5_burnEarliest
theorem dX5_burn_0 : decode cX5_burn 0 = .ok (.iload_n 1, 1) := by decide +kernel
theorem dX5_burn_1 : decode cX5_burn 1 = .ok (.invokestatic 71, 3) := by decide +kernel
theorem dX5_burn_4 : decode cX5_burn 4 = .ok (.iload_n 2, 1) := by decide +kernel
theorem dX5_burn_5 : decode cX5_burn 5 = .ok (.invokestatic 48, 3) := by decide +kernel
theorem dX5_burn_8 : decode cX5_burn 8 = .ok (.iload_n 3, 1) := by decide +kernel
theorem dX5_burn_9 : decode cX5_burn 9 = .ok (.iconst 1, 1) := by decide +kernel
theorem dX5_burn_10 : decode cX5_burn 10 = .ok (.bipush 100, 2) := by decide +kernel
theorem dX5_burn_12 : decode cX5_burn 12 = .ok (.invokestatic 55, 3) := by decide +kernel
theorem dX5_burn_15 : decode cX5_burn 15 = .ok (.aload_n 0, 1) := by decide +kernel
theorem dX5_burn_16 : decode cX5_burn 16 = .ok (.getfield 33, 3) := by decide +kernel
theorem dX5_burn_19 : decode cX5_burn 19 = .ok (.iload_n 1, 1) := by decide +kernel
theorem dX5_burn_20 : decode cX5_burn 20 = .ok (.invokevirtual 121, 3) := by decide +kernel
theorem dX5_burn_23 : decode cX5_burn 23 = .ok (.iload_n 3, 1) := by decide +kernel
theorem dX5_burn_24 : decode cX5_burn 24 = .ok (.if_icmp .ge 13, 3) := by decide +kernel
theorem dX5_burn_27 : decode cX5_burn 27 = .ok (.new 82, 3) := by decide +kernel
theorem dX5_burn_30 : decode cX5_burn 30 = .ok (.dup, 1) := by decide +kernel
theorem dX5_burn_31 : decode cX5_burn 31 = .ok (.ldc 125, 2) := by decide +kernel
theorem dX5_burn_33 : decode cX5_burn 33 = .ok (.invokespecial 86, 3) := by decide +kernel
theorem dX5_burn_36 : decode cX5_burn 36 = .ok (.athrow, 1) := by decide +kernel
theorem dX5_burn_37 : decode cX5_burn 37 = .ok (.aload_n 0, 1) := by decide +kernel
theorem dX5_burn_38 : decode cX5_burn 38 = .ok (.iload_n 1, 1) := by decide +kernel
theorem dX5_burn_39 : decode cX5_burn 39 = .ok (.iload_n 2, 1) := by decide +kernel
theorem dX5_burn_40 : decode cX5_burn 40 = .ok (.iload_n 3, 1) := by decide +kernel
theorem dX5_burn_41 : decode cX5_burn 41 = .ok (.invokevirtual 127, 3) := by decide +kernel
theorem dX5_burn_44 : decode cX5_burn 44 = .ok (.aload_n 0, 1) := by decide +kernel
theorem dX5_burn_45 : decode cX5_burn 45 = .ok (.getfield 33, 3) := by decide +kernel
theorem dX5_burn_48 : decode cX5_burn 48 = .ok (.iload_n 1, 1) := by decide +kernel
theorem dX5_burn_49 : decode cX5_burn 49 = .ok (.invokevirtual 121, 3) := by decide +kernel
theorem dX5_burn_52 : decode cX5_burn 52 = .ok (.ireturn, 1) := by decide +kernel
set_option maxRecDepth 20000 in
theorem ggX5_night_X0_missedIn : GoodIn wsX5_night wsX0_missedIn := goodIn_r _ [11, 12, 13, 14, 39, 40, 41, 42, 43, 44, 45] (by decide +kernel) (by decide +kernel)
set_option maxRecDepth 20000 in
theorem gX5_night_X0_missedIn : GoodIn wsX5_night (wsV RX5 132 RX0 yX0_missedIn wsX0_missedIn) := goodIn_app (goodIn_of _ (by decide +kernel)) ggX5_night_X0_missedIn
set_option maxRecDepth 20000 in
theorem ggX5_night_X4_endNight : GoodIn wsX5_night wsX4_endNight := goodIn_r _ [19, 20, 46, 47, 48] (by decide +kernel) (by decide +kernel)
set_option maxRecDepth 20000 in
theorem gX5_night_X4_endNight : GoodIn wsX5_night (wsV RX5 135 RX4 yX4_endNight wsX4_endNight) := goodIn_app (goodIn_of _ (by decide +kernel)) ggX5_night_X4_endNight
set_option maxRecDepth 20000 in
theorem ggX5_night_X2_endNight : GoodIn wsX5_night wsX2_endNight := goodIn_r _ [25, 26, 27, 28, 29, 30, 31, 32, 49, 50, 51, 52, 53, 54, 55] (by decide +kernel) (by decide +kernel)
set_option maxRecDepth 20000 in
theorem gX5_night_X2_endNight : GoodIn wsX5_night (wsV RX5 138 RX2 yX2_endNight wsX2_endNight) := goodIn_app (goodIn_of _ (by decide +kernel)) ggX5_night_X2_endNight
theorem dX5_night_0 : decode cX5_night 0 = .ok (.aload_n 0, 1) := by decide +kernel
theorem dX5_night_1 : decode cX5_night 1 = .ok (.getfield 44, 3) := by decide +kernel
theorem dX5_night_4 : decode cX5_night 4 = .ok (.sipush 300, 3) := by decide +kernel
theorem dX5_night_7 : decode cX5_night 7 = .ok (.if_icmp .lt 13, 3) := by decide +kernel
theorem dX5_night_10 : decode cX5_night 10 = .ok (.new 82, 3) := by decide +kernel
theorem dX5_night_13 : decode cX5_night 13 = .ok (.dup, 1) := by decide +kernel
theorem dX5_night_14 : decode cX5_night 14 = .ok (.ldc 130, 2) := by decide +kernel
theorem dX5_night_16 : decode cX5_night 16 = .ok (.invokespecial 86, 3) := by decide +kernel
theorem dX5_night_19 : decode cX5_night 19 = .ok (.athrow, 1) := by decide +kernel
theorem dX5_night_20 : decode cX5_night 20 = .ok (.aload_n 0, 1) := by decide +kernel
theorem dX5_night_21 : decode cX5_night 21 = .ok (.getfield 26, 3) := by decide +kernel
theorem dX5_night_24 : decode cX5_night 24 = .ok (.aload_n 0, 1) := by decide +kernel
theorem dX5_night_25 : decode cX5_night 25 = .ok (.getfield 44, 3) := by decide +kernel
theorem dX5_night_28 : decode cX5_night 28 = .ok (.invokevirtual 132, 3) := by decide +kernel
theorem dX5_night_31 : decode cX5_night 31 = .ok (.istore_n 1, 1) := by decide +kernel
theorem dX5_night_32 : decode cX5_night 32 = .ok (.aload_n 0, 1) := by decide +kernel
theorem dX5_night_33 : decode cX5_night 33 = .ok (.getfield 10, 3) := by decide +kernel
theorem dX5_night_36 : decode cX5_night 36 = .ok (.invokevirtual 135, 3) := by decide +kernel
theorem dX5_night_39 : decode cX5_night 39 = .ok (.aload_n 0, 1) := by decide +kernel
theorem dX5_night_40 : decode cX5_night 40 = .ok (.getfield 19, 3) := by decide +kernel
end
section
theorem dX5_night_43 : decode cX5_night 43 = .ok (.invokevirtual 138, 3) := by decide +kernel
theorem dX5_night_46 : decode cX5_night 46 = .ok (.aload_n 0, 1) := by decide +kernel
theorem dX5_night_47 : decode cX5_night 47 = .ok (.dup, 1) := by decide +kernel
theorem dX5_night_48 : decode cX5_night 48 = .ok (.getfield 44, 3) := by decide +kernel
theorem dX5_night_51 : decode cX5_night 51 = .ok (.iconst 1, 1) := by decide +kernel
theorem dX5_night_52 : decode cX5_night 52 = .ok (.iadd, 1) := by decide +kernel
theorem dX5_night_53 : decode cX5_night 53 = .ok (.putfield 44, 3) := by decide +kernel
theorem dX5_night_56 : decode cX5_night 56 = .ok (.iload_n 1, 1) := by decide +kernel
theorem dX5_night_57 : decode cX5_night 57 = .ok (.ireturn, 1) := by decide +kernel
set_option maxRecDepth 20000 in
theorem ggX5_settle_X1_payAll : GoodIn wsX5_settle wsX1_payAll := goodIn_r _ [6, 7, 8, 9, 5, 10, 11, 12, 13, 14, 15, 16, 17, 18, 19, 20, 21, 22, 23, 24, 25, 26, 27, 34, 35] (by decide +kernel) (by decide +kernel)
set_option maxRecDepth 20000 in
theorem gX5_settle_X1_payAll : GoodIn wsX5_settle (wsV RX5 139 RX1 yX1_payAll wsX1_payAll) := goodIn_app (goodIn_of _ (by decide +kernel)) ggX5_settle_X1_payAll
theorem dX5_settle_0 : decode cX5_settle 0 = .ok (.aload_n 0, 1) := by decide +kernel
theorem dX5_settle_1 : decode cX5_settle 1 = .ok (.getfield 40, 3) := by decide +kernel
theorem dX5_settle_4 : decode cX5_settle 4 = .ok (.invokevirtual 139, 3) := by decide +kernel
theorem dX5_settle_7 : decode cX5_settle 7 = .ok (.ireturn, 1) := by decide +kernel
theorem dX5_today_0 : decode cX5_today 0 = .ok (.aload_n 0, 1) := by decide +kernel
theorem dX5_today_1 : decode cX5_today 1 = .ok (.getfield 44, 3) := by decide +kernel
theorem dX5_today_4 : decode cX5_today 4 = .ok (.ireturn, 1) := by decide +kernel
theorem dX5_bookings_0 : decode cX5_bookings 0 = .ok (.aload_n 0, 1) := by decide +kernel
theorem dX5_bookings_1 : decode cX5_bookings 1 = .ok (.getfield 26, 3) := by decide +kernel
theorem dX5_bookings_4 : decode cX5_bookings 4 = .ok (.getfield 143, 3) := by decide +kernel
theorem dX5_bookings_7 : decode cX5_bookings 7 = .ok (.ireturn, 1) := by decide +kernel
set_option maxRecDepth 20000 in
theorem ggX5_free_X5_checkInn : GoodIn wsX5_free wsX5_checkInn := goodIn_ca (goodIn_r _ [5, 6, 7] (by decide +kernel) (by decide +kernel)) (goodIn_sub (fun _ h => List.mem_cons_of_mem _ (List.mem_append_right _ h)) (by decide +kernel))
set_option maxRecDepth 20000 in
theorem gX5_free_X5_checkInn : GoodIn wsX5_free (va_wsS RX5 48 yX5_checkInn wsX5_checkInn) := goodIn_app (goodIn_of _ (by decide +kernel)) ggX5_free_X5_checkInn
set_option maxRecDepth 20000 in
theorem ggX5_free_X5_checkKind : GoodIn wsX5_free wsX5_checkKind := goodIn_ca (goodIn_r _ [10, 6, 7] (by decide +kernel) (by decide +kernel)) (goodIn_sub (fun _ h => List.mem_cons_of_mem _ (List.mem_append_right _ h)) (by decide +kernel))
set_option maxRecDepth 20000 in
theorem gX5_free_X5_checkKind : GoodIn wsX5_free (va_wsS RX5 52 yX5_checkKind wsX5_checkKind) := goodIn_app (goodIn_of _ (by decide +kernel)) ggX5_free_X5_checkKind
set_option maxRecDepth 20000 in
theorem ggX5_free_X4_freeOf : GoodIn wsX5_free wsX4_freeOf := goodIn_r _ [15, 16, 17, 18, 19, 20, 21, 22, 14, 23, 24, 25, 26, 27, 28, 29, 30, 31, 32, 39, 40, 41] (by decide +kernel) (by decide +kernel)
set_option maxRecDepth 20000 in
theorem gX5_free_X4_freeOf : GoodIn wsX5_free (wsV RX5 146 RX4 yX4_freeOf wsX4_freeOf) := goodIn_app (goodIn_of _ (by decide +kernel)) ggX5_free_X4_freeOf
theorem dX5_free_0 : decode cX5_free 0 = .ok (.iload_n 1, 1) := by decide +kernel
theorem dX5_free_1 : decode cX5_free 1 = .ok (.invokestatic 48, 3) := by decide +kernel
theorem dX5_free_4 : decode cX5_free 4 = .ok (.iload_n 2, 1) := by decide +kernel
theorem dX5_free_5 : decode cX5_free 5 = .ok (.invokestatic 52, 3) := by decide +kernel
theorem dX5_free_8 : decode cX5_free 8 = .ok (.aload_n 0, 1) := by decide +kernel
theorem dX5_free_9 : decode cX5_free 9 = .ok (.getfield 10, 3) := by decide +kernel
theorem dX5_free_12 : decode cX5_free 12 = .ok (.iload_n 1, 1) := by decide +kernel
theorem dX5_free_13 : decode cX5_free 13 = .ok (.iload_n 2, 1) := by decide +kernel
theorem dX5_free_14 : decode cX5_free 14 = .ok (.invokevirtual 146, 3) := by decide +kernel
theorem dX5_free_17 : decode cX5_free 17 = .ok (.ireturn, 1) := by decide +kernel
set_option maxRecDepth 20000 in
theorem ggX5_taken_X5_checkInn : GoodIn wsX5_taken wsX5_checkInn := goodIn_ca (goodIn_r _ [5, 6, 7] (by decide +kernel) (by decide +kernel)) (goodIn_sub (fun _ h => List.mem_cons_of_mem _ (List.mem_append_right _ h)) (by decide +kernel))
set_option maxRecDepth 20000 in
theorem gX5_taken_X5_checkInn : GoodIn wsX5_taken (va_wsS RX5 48 yX5_checkInn wsX5_checkInn) := goodIn_app (goodIn_of _ (by decide +kernel)) ggX5_taken_X5_checkInn
set_option maxRecDepth 20000 in
theorem ggX5_taken_X5_checkKind : GoodIn wsX5_taken wsX5_checkKind := goodIn_ca (goodIn_r _ [10, 6, 7] (by decide +kernel) (by decide +kernel)) (goodIn_sub (fun _ h => List.mem_cons_of_mem _ (List.mem_append_right _ h)) (by decide +kernel))
set_option maxRecDepth 20000 in
theorem gX5_taken_X5_checkKind : GoodIn wsX5_taken (va_wsS RX5 52 yX5_checkKind wsX5_checkKind) := goodIn_app (goodIn_of _ (by decide +kernel)) ggX5_taken_X5_checkKind
set_option maxRecDepth 20000 in
theorem ggX5_taken_X4_sleepersOf : GoodIn wsX5_taken wsX4_sleepersOf := goodIn_r _ [15, 16, 17, 18, 14, 19, 26, 27, 28] (by decide +kernel) (by decide +kernel)
set_option maxRecDepth 20000 in
theorem gX5_taken_X4_sleepersOf : GoodIn wsX5_taken (wsV RX5 149 RX4 yX4_sleepersOf wsX4_sleepersOf) := goodIn_app (goodIn_of _ (by decide +kernel)) ggX5_taken_X4_sleepersOf
theorem dX5_taken_0 : decode cX5_taken 0 = .ok (.iload_n 1, 1) := by decide +kernel
theorem dX5_taken_1 : decode cX5_taken 1 = .ok (.invokestatic 48, 3) := by decide +kernel
theorem dX5_taken_4 : decode cX5_taken 4 = .ok (.iload_n 2, 1) := by decide +kernel
theorem dX5_taken_5 : decode cX5_taken 5 = .ok (.invokestatic 52, 3) := by decide +kernel
theorem dX5_taken_8 : decode cX5_taken 8 = .ok (.aload_n 0, 1) := by decide +kernel
theorem dX5_taken_9 : decode cX5_taken 9 = .ok (.getfield 10, 3) := by decide +kernel
theorem dX5_taken_12 : decode cX5_taken 12 = .ok (.iload_n 1, 1) := by decide +kernel
theorem dX5_taken_13 : decode cX5_taken 13 = .ok (.iload_n 2, 1) := by decide +kernel
theorem dX5_taken_14 : decode cX5_taken 14 = .ok (.invokevirtual 149, 3) := by decide +kernel
theorem dX5_taken_17 : decode cX5_taken 17 = .ok (.ireturn, 1) := by decide +kernel
set_option maxRecDepth 20000 in
theorem ggX5_takenByBookings_X5_checkInn : GoodIn wsX5_takenByBookings wsX5_checkInn := goodIn_ca (goodIn_r _ [6, 7, 8] (by decide +kernel) (by decide +kernel)) (goodIn_sub (fun _ h => List.mem_cons_of_mem _ (List.mem_append_right _ h)) (by decide +kernel))
set_option maxRecDepth 20000 in
theorem gX5_takenByBookings_X5_checkInn : GoodIn wsX5_takenByBookings (va_wsS RX5 48 yX5_checkInn wsX5_checkInn) := goodIn_app (goodIn_of _ (by decide +kernel)) ggX5_takenByBookings_X5_checkInn
set_option maxRecDepth 20000 in
theorem ggX5_takenByBookings_X5_checkKind : GoodIn wsX5_takenByBookings wsX5_checkKind := goodIn_ca (goodIn_r _ [11, 7, 8] (by decide +kernel) (by decide +kernel)) (goodIn_sub (fun _ h => List.mem_cons_of_mem _ (List.mem_append_right _ h)) (by decide +kernel))
set_option maxRecDepth 20000 in
theorem gX5_takenByBookings_X5_checkKind : GoodIn wsX5_takenByBookings (va_wsS RX5 52 yX5_checkKind wsX5_checkKind) := goodIn_app (goodIn_of _ (by decide +kernel)) ggX5_takenByBookings_X5_checkKind
set_option maxRecDepth 20000 in
theorem ggX5_takenByBookings_X0_sleepersAt : GoodIn wsX5_takenByBookings wsX0_sleepersAt := goodIn_r _ [16, 17, 18, 19, 20, 27, 28, 29, 30, 31, 32, 33] (by decide +kernel) (by decide +kernel)
set_option maxRecDepth 20000 in
theorem gX5_takenByBookings_X0_sleepersAt : GoodIn wsX5_takenByBookings (wsV RX5 152 RX0 yX0_sleepersAt wsX0_sleepersAt) := goodIn_app (goodIn_of _ (by decide +kernel)) ggX5_takenByBookings_X0_sleepersAt
theorem dX5_takenByBookings_0 : decode cX5_takenByBookings 0 = .ok (.iload_n 1, 1) := by decide +kernel
theorem dX5_takenByBookings_1 : decode cX5_takenByBookings 1 = .ok (.invokestatic 48, 3) := by decide +kernel
theorem dX5_takenByBookings_4 : decode cX5_takenByBookings 4 = .ok (.iload_n 2, 1) := by decide +kernel
theorem dX5_takenByBookings_5 : decode cX5_takenByBookings 5 = .ok (.invokestatic 52, 3) := by decide +kernel
theorem dX5_takenByBookings_8 : decode cX5_takenByBookings 8 = .ok (.aload_n 0, 1) := by decide +kernel
theorem dX5_takenByBookings_9 : decode cX5_takenByBookings 9 = .ok (.getfield 26, 3) := by decide +kernel
theorem dX5_takenByBookings_12 : decode cX5_takenByBookings 12 = .ok (.iload_n 1, 1) := by decide +kernel
theorem dX5_takenByBookings_13 : decode cX5_takenByBookings 13 = .ok (.iload_n 2, 1) := by decide +kernel
theorem dX5_takenByBookings_14 : decode cX5_takenByBookings 14 = .ok (.aload_n 0, 1) := by decide +kernel
theorem dX5_takenByBookings_15 : decode cX5_takenByBookings 15 = .ok (.getfield 44, 3) := by decide +kernel
theorem dX5_takenByBookings_18 : decode cX5_takenByBookings 18 = .ok (.invokevirtual 152, 3) := by decide +kernel
theorem dX5_takenByBookings_21 : decode cX5_takenByBookings 21 = .ok (.ireturn, 1) := by decide +kernel
set_option maxRecDepth 20000 in
theorem ggX5_extra_X5_checkInn : GoodIn wsX5_extra wsX5_checkInn := goodIn_ca (goodIn_r _ [4, 5, 6] (by decide +kernel) (by decide +kernel)) (goodIn_sub (fun _ h => List.mem_cons_of_mem _ (List.mem_append_right _ h)) (by decide +kernel))
set_option maxRecDepth 20000 in
theorem gX5_extra_X5_checkInn : GoodIn wsX5_extra (va_wsS RX5 48 yX5_checkInn wsX5_checkInn) := goodIn_app (goodIn_of _ (by decide +kernel)) ggX5_extra_X5_checkInn
set_option maxRecDepth 20000 in
theorem ggX5_extra_X5_extraOf : GoodIn wsX5_extra wsX5_extraOf := goodIn_r _ [10, 11, 12, 13, 14, 15, 16, 17, 18, 19, 20, 21, 22, 23, 24, 25, 26, 27, 28, 29, 30, 31, 32, 33, 34] (by decide +kernel) (by decide +kernel)
set_option maxRecDepth 20000 in
theorem gX5_extra_X5_extraOf : GoodIn wsX5_extra (wsV RX5 156 RX5 yX5_extraOf wsX5_extraOf) := goodIn_app (goodIn_of _ (by decide +kernel)) ggX5_extra_X5_extraOf
theorem dX5_extra_0 : decode cX5_extra 0 = .ok (.iload_n 1, 1) := by decide +kernel
theorem dX5_extra_1 : decode cX5_extra 1 = .ok (.invokestatic 48, 3) := by decide +kernel
theorem dX5_extra_4 : decode cX5_extra 4 = .ok (.aload_n 0, 1) := by decide +kernel
theorem dX5_extra_5 : decode cX5_extra 5 = .ok (.iload_n 1, 1) := by decide +kernel
theorem dX5_extra_6 : decode cX5_extra 6 = .ok (.invokevirtual 156, 3) := by decide +kernel
theorem dX5_extra_9 : decode cX5_extra 9 = .ok (.ireturn, 1) := by decide +kernel
set_option maxRecDepth 20000 in
theorem ggX5_clean_X5_checkInn : GoodIn wsX5_clean wsX5_checkInn := goodIn_ca (goodIn_r _ [6, 7, 8] (by decide +kernel) (by decide +kernel)) (goodIn_sub (fun _ h => List.mem_cons_of_mem _ (List.mem_append_right _ h)) (by decide +kernel))
set_option maxRecDepth 20000 in
theorem gX5_clean_X5_checkInn : GoodIn wsX5_clean (va_wsS RX5 48 yX5_checkInn wsX5_checkInn) := goodIn_app (goodIn_of _ (by decide +kernel)) ggX5_clean_X5_checkInn
theorem dX5_clean_0 : decode cX5_clean 0 = .ok (.iload_n 1, 1) := by decide +kernel
theorem dX5_clean_1 : decode cX5_clean 1 = .ok (.invokestatic 48, 3) := by decide +kernel
theorem dX5_clean_4 : decode cX5_clean 4 = .ok (.aload_n 0, 1) := by decide +kernel
theorem dX5_clean_5 : decode cX5_clean 5 = .ok (.getfield 19, 3) := by decide +kernel
theorem dX5_clean_8 : decode cX5_clean 8 = .ok (.getfield 159, 3) := by decide +kernel
theorem dX5_clean_11 : decode cX5_clean 11 = .ok (.iload_n 1, 1) := by decide +kernel
theorem dX5_clean_12 : decode cX5_clean 12 = .ok (.iaload, 1) := by decide +kernel
theorem dX5_clean_13 : decode cX5_clean 13 = .ok (.ireturn, 1) := by decide +kernel
set_option maxRecDepth 20000 in
theorem ggX5_away_X5_checkInn : GoodIn wsX5_away wsX5_checkInn := goodIn_ca (goodIn_r _ [5, 6, 7] (by decide +kernel) (by decide +kernel)) (goodIn_sub (fun _ h => List.mem_cons_of_mem _ (List.mem_append_right _ h)) (by decide +kernel))
set_option maxRecDepth 20000 in
theorem gX5_away_X5_checkInn : GoodIn wsX5_away (va_wsS RX5 48 yX5_checkInn wsX5_checkInn) := goodIn_app (goodIn_of _ (by decide +kernel)) ggX5_away_X5_checkInn
set_option maxRecDepth 20000 in
theorem ggX5_away_X2_awayOf : GoodIn wsX5_away wsX2_awayOf := goodIn_r _ [12, 13, 14, 15, 16, 23, 24, 25, 26, 27, 28, 29] (by decide +kernel) (by decide +kernel)
set_option maxRecDepth 20000 in
theorem gX5_away_X2_awayOf : GoodIn wsX5_away (wsV RX5 162 RX2 yX2_awayOf wsX2_awayOf) := goodIn_app (goodIn_of _ (by decide +kernel)) ggX5_away_X2_awayOf
theorem dX5_away_0 : decode cX5_away 0 = .ok (.iload_n 1, 1) := by decide +kernel
theorem dX5_away_1 : decode cX5_away 1 = .ok (.invokestatic 48, 3) := by decide +kernel
theorem dX5_away_4 : decode cX5_away 4 = .ok (.aload_n 0, 1) := by decide +kernel
theorem dX5_away_5 : decode cX5_away 5 = .ok (.getfield 19, 3) := by decide +kernel
theorem dX5_away_8 : decode cX5_away 8 = .ok (.iload_n 1, 1) := by decide +kernel
theorem dX5_away_9 : decode cX5_away 9 = .ok (.invokevirtual 162, 3) := by decide +kernel
theorem dX5_away_12 : decode cX5_away 12 = .ok (.ireturn, 1) := by decide +kernel
set_option maxRecDepth 20000 in
theorem ggX5_sleeps_X5_checkBooking : GoodIn wsX5_sleeps wsX5_checkBooking := goodIn_ca (goodIn_r _ [7, 8, 9, 1, 10, 11, 12, 13, 14, 15, 16, 17, 18, 19, 20, 21, 22, 23] (by decide +kernel) (by decide +kernel)) (goodIn_sub (fun _ h => List.mem_cons_of_mem _ (List.mem_append_right _ h)) (by decide +kernel))
set_option maxRecDepth 20000 in
theorem gX5_sleeps_X5_checkBooking : GoodIn wsX5_sleeps (wsV RX5 92 RX5 yX5_checkBooking wsX5_checkBooking) := goodIn_app (goodIn_of _ (by decide +kernel)) ggX5_sleeps_X5_checkBooking
theorem dX5_sleeps_0 : decode cX5_sleeps 0 = .ok (.aload_n 0, 1) := by decide +kernel
theorem dX5_sleeps_1 : decode cX5_sleeps 1 = .ok (.iload_n 1, 1) := by decide +kernel
theorem dX5_sleeps_2 : decode cX5_sleeps 2 = .ok (.invokevirtual 92, 3) := by decide +kernel
theorem dX5_sleeps_5 : decode cX5_sleeps 5 = .ok (.aload_n 0, 1) := by decide +kernel
theorem dX5_sleeps_6 : decode cX5_sleeps 6 = .ok (.getfield 26, 3) := by decide +kernel
theorem dX5_sleeps_9 : decode cX5_sleeps 9 = .ok (.getfield 165, 3) := by decide +kernel
theorem dX5_sleeps_12 : decode cX5_sleeps 12 = .ok (.iload_n 1, 1) := by decide +kernel
theorem dX5_sleeps_13 : decode cX5_sleeps 13 = .ok (.iaload, 1) := by decide +kernel
theorem dX5_sleeps_14 : decode cX5_sleeps 14 = .ok (.ireturn, 1) := by decide +kernel
set_option maxRecDepth 20000 in
theorem ggX5_points_X5_checkGuest : GoodIn wsX5_points wsX5_checkGuest := goodIn_ca (goodIn_r _ [5, 6, 7] (by decide +kernel) (by decide +kernel)) (goodIn_sub (fun _ h => List.mem_cons_of_mem _ (List.mem_append_right _ h)) (by decide +kernel))
set_option maxRecDepth 20000 in
theorem gX5_points_X5_checkGuest : GoodIn wsX5_points (va_wsS RX5 71 yX5_checkGuest wsX5_checkGuest) := goodIn_app (goodIn_of _ (by decide +kernel)) ggX5_points_X5_checkGuest
set_option maxRecDepth 20000 in
theorem ggX5_points_X3_ofGuest : GoodIn wsX5_points wsX3_ofGuest := goodIn_r _ [12, 13, 14, 15, 22, 23, 24, 25] (by decide +kernel) (by decide +kernel)
set_option maxRecDepth 20000 in
theorem gX5_points_X3_ofGuest : GoodIn wsX5_points (wsV RX5 121 RX3 yX3_ofGuest wsX3_ofGuest) := goodIn_app (goodIn_of _ (by decide +kernel)) ggX5_points_X3_ofGuest
theorem dX5_points_0 : decode cX5_points 0 = .ok (.iload_n 1, 1) := by decide +kernel
theorem dX5_points_1 : decode cX5_points 1 = .ok (.invokestatic 71, 3) := by decide +kernel
theorem dX5_points_4 : decode cX5_points 4 = .ok (.aload_n 0, 1) := by decide +kernel
theorem dX5_points_5 : decode cX5_points 5 = .ok (.getfield 33, 3) := by decide +kernel
theorem dX5_points_8 : decode cX5_points 8 = .ok (.iload_n 1, 1) := by decide +kernel
theorem dX5_points_9 : decode cX5_points 9 = .ok (.invokevirtual 121, 3) := by decide +kernel
theorem dX5_points_12 : decode cX5_points 12 = .ok (.ireturn, 1) := by decide +kernel
set_option maxRecDepth 20000 in
theorem ggX5_owes_X5_checkInn : GoodIn wsX5_owes wsX5_checkInn := goodIn_ca (goodIn_r _ [5, 6, 7] (by decide +kernel) (by decide +kernel)) (goodIn_sub (fun _ h => List.mem_cons_of_mem _ (List.mem_append_right _ h)) (by decide +kernel))
set_option maxRecDepth 20000 in
theorem gX5_owes_X5_checkInn : GoodIn wsX5_owes (va_wsS RX5 48 yX5_checkInn wsX5_checkInn) := goodIn_app (goodIn_of _ (by decide +kernel)) ggX5_owes_X5_checkInn
set_option maxRecDepth 20000 in
theorem ggX5_owes_X1_between : GoodIn wsX5_owes wsX1_between := goodIn_r _ [12, 13, 14, 15, 16, 17, 18, 19, 11, 20, 27, 28] (by decide +kernel) (by decide +kernel)
set_option maxRecDepth 20000 in
theorem gX5_owes_X1_between : GoodIn wsX5_owes (wsV RX5 168 RX1 yX1_between wsX1_between) := goodIn_app (goodIn_of _ (by decide +kernel)) ggX5_owes_X1_between
theorem dX5_owes_0 : decode cX5_owes 0 = .ok (.iload_n 1, 1) := by decide +kernel
theorem dX5_owes_1 : decode cX5_owes 1 = .ok (.invokestatic 48, 3) := by decide +kernel
theorem dX5_owes_4 : decode cX5_owes 4 = .ok (.iload_n 2, 1) := by decide +kernel
theorem dX5_owes_5 : decode cX5_owes 5 = .ok (.invokestatic 48, 3) := by decide +kernel
theorem dX5_owes_8 : decode cX5_owes 8 = .ok (.aload_n 0, 1) := by decide +kernel
theorem dX5_owes_9 : decode cX5_owes 9 = .ok (.getfield 40, 3) := by decide +kernel
theorem dX5_owes_12 : decode cX5_owes 12 = .ok (.iload_n 1, 1) := by decide +kernel
theorem dX5_owes_13 : decode cX5_owes 13 = .ok (.iload_n 2, 1) := by decide +kernel
theorem dX5_owes_14 : decode cX5_owes 14 = .ok (.invokevirtual 168, 3) := by decide +kernel
theorem dX5_owes_17 : decode cX5_owes 17 = .ok (.ireturn, 1) := by decide +kernel
set_option maxRecDepth 20000 in
theorem ggX5_purse_X5_checkInn : GoodIn wsX5_purse wsX5_checkInn := goodIn_ca (goodIn_r _ [6, 7, 8] (by decide +kernel) (by decide +kernel)) (goodIn_sub (fun _ h => List.mem_cons_of_mem _ (List.mem_append_right _ h)) (by decide +kernel))
set_option maxRecDepth 20000 in
theorem gX5_purse_X5_checkInn : GoodIn wsX5_purse (va_wsS RX5 48 yX5_checkInn wsX5_checkInn) := goodIn_app (goodIn_of _ (by decide +kernel)) ggX5_purse_X5_checkInn
theorem dX5_purse_0 : decode cX5_purse 0 = .ok (.iload_n 1, 1) := by decide +kernel
theorem dX5_purse_1 : decode cX5_purse 1 = .ok (.invokestatic 48, 3) := by decide +kernel
theorem dX5_purse_4 : decode cX5_purse 4 = .ok (.aload_n 0, 1) := by decide +kernel
theorem dX5_purse_5 : decode cX5_purse 5 = .ok (.getfield 40, 3) := by decide +kernel
theorem dX5_purse_8 : decode cX5_purse 8 = .ok (.getfield 171, 3) := by decide +kernel
theorem dX5_purse_11 : decode cX5_purse 11 = .ok (.iload_n 1, 1) := by decide +kernel
theorem dX5_purse_12 : decode cX5_purse 12 = .ok (.iaload, 1) := by decide +kernel
theorem dX5_purse_13 : decode cX5_purse 13 = .ok (.ireturn, 1) := by decide +kernel
theorem dX5_checkInn_0 : decode cX5_checkInn 0 = .ok (.iload_n 0, 1) := by decide +kernel
theorem dX5_checkInn_1 : decode cX5_checkInn 1 = .ok (.ifCond .lt 8, 3) := by decide +kernel
theorem dX5_checkInn_4 : decode cX5_checkInn 4 = .ok (.iload_n 0, 1) := by decide +kernel
theorem dX5_checkInn_5 : decode cX5_checkInn 5 = .ok (.iconst 4, 1) := by decide +kernel
theorem dX5_checkInn_6 : decode cX5_checkInn 6 = .ok (.if_icmp .lt 13, 3) := by decide +kernel
theorem dX5_checkInn_9 : decode cX5_checkInn 9 = .ok (.new 174, 3) := by decide +kernel
theorem dX5_checkInn_12 : decode cX5_checkInn 12 = .ok (.dup, 1) := by decide +kernel
theorem dX5_checkInn_13 : decode cX5_checkInn 13 = .ok (.ldc 176, 2) := by decide +kernel
theorem dX5_checkInn_15 : decode cX5_checkInn 15 = .ok (.invokespecial 178, 3) := by decide +kernel
theorem dX5_checkInn_18 : decode cX5_checkInn 18 = .ok (.athrow, 1) := by decide +kernel
theorem dX5_checkInn_19 : decode cX5_checkInn 19 = .ok (.return_, 1) := by decide +kernel
theorem dX5_checkKind_0 : decode cX5_checkKind 0 = .ok (.iload_n 0, 1) := by decide +kernel
theorem dX5_checkKind_1 : decode cX5_checkKind 1 = .ok (.ifCond .lt 8, 3) := by decide +kernel
theorem dX5_checkKind_4 : decode cX5_checkKind 4 = .ok (.iload_n 0, 1) := by decide +kernel
theorem dX5_checkKind_5 : decode cX5_checkKind 5 = .ok (.iconst 2, 1) := by decide +kernel
theorem dX5_checkKind_6 : decode cX5_checkKind 6 = .ok (.if_icmp .lt 13, 3) := by decide +kernel
theorem dX5_checkKind_9 : decode cX5_checkKind 9 = .ok (.new 174, 3) := by decide +kernel
theorem dX5_checkKind_12 : decode cX5_checkKind 12 = .ok (.dup, 1) := by decide +kernel
theorem dX5_checkKind_13 : decode cX5_checkKind 13 = .ok (.ldc 179, 2) := by decide +kernel
theorem dX5_checkKind_15 : decode cX5_checkKind 15 = .ok (.invokespecial 178, 3) := by decide +kernel
theorem dX5_checkKind_18 : decode cX5_checkKind 18 = .ok (.athrow, 1) := by decide +kernel
theorem dX5_checkKind_19 : decode cX5_checkKind 19 = .ok (.return_, 1) := by decide +kernel
theorem dX5_checkGuest_0 : decode cX5_checkGuest 0 = .ok (.iload_n 0, 1) := by decide +kernel
theorem dX5_checkGuest_1 : decode cX5_checkGuest 1 = .ok (.ifCond .lt 9, 3) := by decide +kernel
theorem dX5_checkGuest_4 : decode cX5_checkGuest 4 = .ok (.iload_n 0, 1) := by decide +kernel
theorem dX5_checkGuest_5 : decode cX5_checkGuest 5 = .ok (.bipush 10, 2) := by decide +kernel
theorem dX5_checkGuest_7 : decode cX5_checkGuest 7 = .ok (.if_icmp .lt 13, 3) := by decide +kernel
theorem dX5_checkGuest_10 : decode cX5_checkGuest 10 = .ok (.new 174, 3) := by decide +kernel
theorem dX5_checkGuest_13 : decode cX5_checkGuest 13 = .ok (.dup, 1) := by decide +kernel
theorem dX5_checkGuest_14 : decode cX5_checkGuest 14 = .ok (.ldc 181, 2) := by decide +kernel
theorem dX5_checkGuest_16 : decode cX5_checkGuest 16 = .ok (.invokespecial 178, 3) := by decide +kernel
theorem dX5_checkGuest_19 : decode cX5_checkGuest 19 = .ok (.athrow, 1) := by decide +kernel
theorem dX5_checkGuest_20 : decode cX5_checkGuest 20 = .ok (.return_, 1) := by decide +kernel
theorem dX5_checkBooking_0 : decode cX5_checkBooking 0 = .ok (.iload_n 1, 1) := by decide +kernel
theorem dX5_checkBooking_1 : decode cX5_checkBooking 1 = .ok (.ifCond .lt 14, 3) := by decide +kernel
theorem dX5_checkBooking_4 : decode cX5_checkBooking 4 = .ok (.iload_n 1, 1) := by decide +kernel
theorem dX5_checkBooking_5 : decode cX5_checkBooking 5 = .ok (.aload_n 0, 1) := by decide +kernel
theorem dX5_checkBooking_6 : decode cX5_checkBooking 6 = .ok (.getfield 26, 3) := by decide +kernel
theorem dX5_checkBooking_9 : decode cX5_checkBooking 9 = .ok (.getfield 143, 3) := by decide +kernel
theorem dX5_checkBooking_12 : decode cX5_checkBooking 12 = .ok (.if_icmp .lt 13, 3) := by decide +kernel
theorem dX5_checkBooking_15 : decode cX5_checkBooking 15 = .ok (.new 174, 3) := by decide +kernel
theorem dX5_checkBooking_18 : decode cX5_checkBooking 18 = .ok (.dup, 1) := by decide +kernel
theorem dX5_checkBooking_19 : decode cX5_checkBooking 19 = .ok (.ldc 183, 2) := by decide +kernel
theorem dX5_checkBooking_21 : decode cX5_checkBooking 21 = .ok (.invokespecial 178, 3) := by decide +kernel
theorem dX5_checkBooking_24 : decode cX5_checkBooking 24 = .ok (.athrow, 1) := by decide +kernel
theorem dX5_checkBooking_25 : decode cX5_checkBooking 25 = .ok (.return_, 1) := by decide +kernel
theorem dX5_checkRange_0 : decode cX5_checkRange 0 = .ok (.iload_n 0, 1) := by decide +kernel
theorem dX5_checkRange_1 : decode cX5_checkRange 1 = .ok (.iload_n 1, 1) := by decide +kernel
theorem dX5_checkRange_2 : decode cX5_checkRange 2 = .ok (.if_icmp .lt 8, 3) := by decide +kernel
theorem dX5_checkRange_5 : decode cX5_checkRange 5 = .ok (.iload_n 0, 1) := by decide +kernel
theorem dX5_checkRange_6 : decode cX5_checkRange 6 = .ok (.iload_n 2, 1) := by decide +kernel
theorem dX5_checkRange_7 : decode cX5_checkRange 7 = .ok (.if_icmp .le 13, 3) := by decide +kernel
theorem dX5_checkRange_10 : decode cX5_checkRange 10 = .ok (.new 185, 3) := by decide +kernel
theorem dX5_checkRange_13 : decode cX5_checkRange 13 = .ok (.dup, 1) := by decide +kernel
theorem dX5_checkRange_14 : decode cX5_checkRange 14 = .ok (.ldc 187, 2) := by decide +kernel
theorem dX5_checkRange_16 : decode cX5_checkRange 16 = .ok (.invokespecial 189, 3) := by decide +kernel
theorem dX5_checkRange_19 : decode cX5_checkRange 19 = .ok (.athrow, 1) := by decide +kernel
theorem dX5_checkRange_20 : decode cX5_checkRange 20 = .ok (.return_, 1) := by decide +kernel
set_option maxRecDepth 20000 in
theorem ggX5_extraOf_X0_missedAt : GoodIn wsX5_extraOf wsX0_missedAt := goodIn_r _ [7, 8, 9, 10, 11, 18, 19, 20, 21, 22, 23, 24] (by decide +kernel) (by decide +kernel)
set_option maxRecDepth 20000 in
theorem gX5_extraOf_X0_missedAt : GoodIn wsX5_extraOf (wsV RX5 190 RX0 yX0_missedAt wsX0_missedAt) := goodIn_app (goodIn_of _ (by decide +kernel)) ggX5_extraOf_X0_missedAt
theorem dX5_extraOf_0 : decode cX5_extraOf 0 = .ok (.aload_n 0, 1) := by decide +kernel
theorem dX5_extraOf_1 : decode cX5_extraOf 1 = .ok (.getfield 26, 3) := by decide +kernel
theorem dX5_extraOf_4 : decode cX5_extraOf 4 = .ok (.iload_n 1, 1) := by decide +kernel
theorem dX5_extraOf_5 : decode cX5_extraOf 5 = .ok (.aload_n 0, 1) := by decide +kernel
theorem dX5_extraOf_6 : decode cX5_extraOf 6 = .ok (.getfield 44, 3) := by decide +kernel
theorem dX5_extraOf_9 : decode cX5_extraOf 9 = .ok (.iconst 4, 1) := by decide +kernel
theorem dX5_extraOf_10 : decode cX5_extraOf 10 = .ok (.isub, 1) := by decide +kernel
theorem dX5_extraOf_11 : decode cX5_extraOf 11 = .ok (.aload_n 0, 1) := by decide +kernel
theorem dX5_extraOf_12 : decode cX5_extraOf 12 = .ok (.getfield 44, 3) := by decide +kernel
theorem dX5_extraOf_15 : decode cX5_extraOf 15 = .ok (.invokevirtual 190, 3) := by decide +kernel
theorem dX5_extraOf_18 : decode cX5_extraOf 18 = .ok (.iconst 4, 1) := by decide +kernel
theorem dX5_extraOf_19 : decode cX5_extraOf 19 = .ok (.idiv, 1) := by decide +kernel
theorem dX5_extraOf_20 : decode cX5_extraOf 20 = .ok (.ireturn, 1) := by decide +kernel
set_option maxRecDepth 20000 in
theorem ggX5_takesMore_X0_countFor : GoodIn wsX5_takesMore wsX0_countFor := goodIn_r _ [7, 8, 9, 10, 11, 38, 39, 40, 41, 42, 43, 44] (by decide +kernel) (by decide +kernel)
set_option maxRecDepth 20000 in
theorem gX5_takesMore_X0_countFor : GoodIn wsX5_takesMore (wsV RX5 193 RX0 yX0_countFor wsX0_countFor) := goodIn_app (goodIn_of _ (by decide +kernel)) ggX5_takesMore_X0_countFor
set_option maxRecDepth 20000 in
theorem ggX5_takesMore_X4_countOf : GoodIn wsX5_takesMore wsX4_countOf := goodIn_r _ [16, 17, 18, 19, 15, 20, 45, 46, 47] (by decide +kernel) (by decide +kernel)
set_option maxRecDepth 20000 in
theorem gX5_takesMore_X4_countOf : GoodIn wsX5_takesMore (wsV RX5 196 RX4 yX4_countOf wsX4_countOf) := goodIn_app (goodIn_of _ (by decide +kernel)) ggX5_takesMore_X4_countOf
set_option maxRecDepth 20000 in
theorem ggX5_takesMore_X5_extraOf : GoodIn wsX5_takesMore wsX5_extraOf := goodIn_r _ [25, 1, 26, 27, 28, 29, 6, 30, 8, 9, 11, 31, 32, 33, 34, 35, 36, 37, 38, 39, 40, 41, 42, 43, 44] (by decide +kernel) (by decide +kernel)
set_option maxRecDepth 20000 in
theorem gX5_takesMore_X5_extraOf : GoodIn wsX5_takesMore (wsV RX5 156 RX5 yX5_extraOf wsX5_extraOf) := goodIn_app (goodIn_of _ (by decide +kernel)) ggX5_takesMore_X5_extraOf
theorem dX5_takesMore_0 : decode cX5_takesMore 0 = .ok (.aload_n 0, 1) := by decide +kernel
theorem dX5_takesMore_1 : decode cX5_takesMore 1 = .ok (.getfield 26, 3) := by decide +kernel
theorem dX5_takesMore_4 : decode cX5_takesMore 4 = .ok (.iload_n 1, 1) := by decide +kernel
theorem dX5_takesMore_5 : decode cX5_takesMore 5 = .ok (.iload_n 2, 1) := by decide +kernel
theorem dX5_takesMore_6 : decode cX5_takesMore 6 = .ok (.iload_n 3, 1) := by decide +kernel
theorem dX5_takesMore_7 : decode cX5_takesMore 7 = .ok (.invokevirtual 193, 3) := by decide +kernel
theorem dX5_takesMore_10 : decode cX5_takesMore 10 = .ok (.aload_n 0, 1) := by decide +kernel
theorem dX5_takesMore_11 : decode cX5_takesMore 11 = .ok (.getfield 10, 3) := by decide +kernel
theorem dX5_takesMore_14 : decode cX5_takesMore 14 = .ok (.iload_n 1, 1) := by decide +kernel
theorem dX5_takesMore_15 : decode cX5_takesMore 15 = .ok (.iload_n 2, 1) := by decide +kernel
theorem dX5_takesMore_16 : decode cX5_takesMore 16 = .ok (.invokevirtual 196, 3) := by decide +kernel
theorem dX5_takesMore_19 : decode cX5_takesMore 19 = .ok (.aload_n 0, 1) := by decide +kernel
theorem dX5_takesMore_20 : decode cX5_takesMore 20 = .ok (.iload_n 1, 1) := by decide +kernel
theorem dX5_takesMore_21 : decode cX5_takesMore 21 = .ok (.invokevirtual 156, 3) := by decide +kernel
theorem dX5_takesMore_24 : decode cX5_takesMore 24 = .ok (.iadd, 1) := by decide +kernel
theorem dX5_takesMore_25 : decode cX5_takesMore 25 = .ok (.if_icmp .ge 7, 3) := by decide +kernel
theorem dX5_takesMore_28 : decode cX5_takesMore 28 = .ok (.iconst 1, 1) := by decide +kernel
theorem dX5_takesMore_29 : decode cX5_takesMore 29 = .ok (.goto 4, 3) := by decide +kernel
theorem dX5_takesMore_32 : decode cX5_takesMore 32 = .ok (.iconst 0, 1) := by decide +kernel
theorem dX5_takesMore_33 : decode cX5_takesMore 33 = .ok (.ireturn, 1) := by decide +kernel
theorem dX5_distance_0 : decode cX5_distance 0 = .ok (.iload_n 0, 1) := by decide +kernel
theorem dX5_distance_1 : decode cX5_distance 1 = .ok (.iload_n 1, 1) := by decide +kernel
theorem dX5_distance_2 : decode cX5_distance 2 = .ok (.isub, 1) := by decide +kernel
theorem dX5_distance_3 : decode cX5_distance 3 = .ok (.invokestatic 199, 3) := by decide +kernel
theorem dX5_distance_6 : decode cX5_distance 6 = .ok (.istore_n 2, 1) := by decide +kernel
theorem dX5_distance_7 : decode cX5_distance 7 = .ok (.iload_n 2, 1) := by decide +kernel
theorem dX5_distance_8 : decode cX5_distance 8 = .ok (.iconst 4, 1) := by decide +kernel
theorem dX5_distance_9 : decode cX5_distance 9 = .ok (.iload_n 2, 1) := by decide +kernel
theorem dX5_distance_10 : decode cX5_distance 10 = .ok (.isub, 1) := by decide +kernel
theorem dX5_distance_11 : decode cX5_distance 11 = .ok (.invokestatic 204, 3) := by decide +kernel
theorem dX5_distance_14 : decode cX5_distance 14 = .ok (.ireturn, 1) := by decide +kernel
set_option maxRecDepth 20000 in
theorem ggX5_findInn_X5_distance : GoodIn wsX5_findInn wsX5_distance := goodIn_r _ [6, 7, 8, 9, 10, 11, 12, 13] (by decide +kernel) (by decide +kernel)
set_option maxRecDepth 20000 in
theorem gX5_findInn_X5_distance : GoodIn wsX5_findInn (va_wsS RX5 207 yX5_distance wsX5_distance) := goodIn_app (goodIn_of _ (by decide +kernel)) ggX5_findInn_X5_distance
set_option maxRecDepth 20000 in
theorem ggX5_findInn_X4_freeOf : GoodIn wsX5_findInn wsX4_freeOf := goodIn_r _ [18, 19, 20, 9, 21, 22, 23, 24, 17, 25, 26, 27, 28, 29, 30, 31, 32, 33, 34, 47, 48, 49] (by decide +kernel) (by decide +kernel)
set_option maxRecDepth 20000 in
theorem gX5_findInn_X4_freeOf : GoodIn wsX5_findInn (wsV RX5 146 RX4 yX4_freeOf wsX4_freeOf) := goodIn_app (goodIn_of _ (by decide +kernel)) ggX5_findInn_X4_freeOf
set_option maxRecDepth 20000 in
theorem ggX5_findInn_X2_giverFor : GoodIn wsX5_findInn wsX2_giverFor := goodIn_r _ [39, 40, 50, 51, 52, 53, 54, 55, 56] (by decide +kernel) (by decide +kernel)
set_option maxRecDepth 20000 in
theorem gX5_findInn_X2_giverFor : GoodIn wsX5_findInn (wsV RX5 210 RX2 yX2_giverFor wsX2_giverFor) := goodIn_app (goodIn_of _ (by decide +kernel)) ggX5_findInn_X2_giverFor
theorem dX5_findInn_0 : decode cX5_findInn 0 = .ok (.iconst 0, 1) := by decide +kernel
theorem dX5_findInn_1 : decode cX5_findInn 1 = .ok (.istore_n 3, 1) := by decide +kernel
theorem dX5_findInn_2 : decode cX5_findInn 2 = .ok (.iload_n 3, 1) := by decide +kernel
theorem dX5_findInn_3 : decode cX5_findInn 3 = .ok (.iconst 2, 1) := by decide +kernel
theorem dX5_findInn_4 : decode cX5_findInn 4 = .ok (.if_icmp .gt 63, 3) := by decide +kernel
theorem dX5_findInn_7 : decode cX5_findInn 7 = .ok (.iconst 0, 1) := by decide +kernel
theorem dX5_findInn_8 : decode cX5_findInn 8 = .ok (.istore 4, 2) := by decide +kernel
theorem dX5_findInn_10 : decode cX5_findInn 10 = .ok (.iload 4, 2) := by decide +kernel
theorem dX5_findInn_12 : decode cX5_findInn 12 = .ok (.iconst 4, 1) := by decide +kernel
theorem dX5_findInn_13 : decode cX5_findInn 13 = .ok (.if_icmp .ge 48, 3) := by decide +kernel
theorem dX5_findInn_16 : decode cX5_findInn 16 = .ok (.iload_n 1, 1) := by decide +kernel
theorem dX5_findInn_17 : decode cX5_findInn 17 = .ok (.iload 4, 2) := by decide +kernel
theorem dX5_findInn_19 : decode cX5_findInn 19 = .ok (.invokestatic 207, 3) := by decide +kernel
theorem dX5_findInn_22 : decode cX5_findInn 22 = .ok (.iload_n 3, 1) := by decide +kernel
theorem dX5_findInn_23 : decode cX5_findInn 23 = .ok (.if_icmp .ne 32, 3) := by decide +kernel
theorem dX5_findInn_26 : decode cX5_findInn 26 = .ok (.aload_n 0, 1) := by decide +kernel
theorem dX5_findInn_27 : decode cX5_findInn 27 = .ok (.getfield 10, 3) := by decide +kernel
theorem dX5_findInn_30 : decode cX5_findInn 30 = .ok (.iload 4, 2) := by decide +kernel
theorem dX5_findInn_32 : decode cX5_findInn 32 = .ok (.iload_n 2, 1) := by decide +kernel
theorem dX5_findInn_33 : decode cX5_findInn 33 = .ok (.invokevirtual 146, 3) := by decide +kernel
theorem dX5_findInn_36 : decode cX5_findInn 36 = .ok (.ifCond .le 19, 3) := by decide +kernel
theorem dX5_findInn_39 : decode cX5_findInn 39 = .ok (.aload_n 0, 1) := by decide +kernel
theorem dX5_findInn_40 : decode cX5_findInn 40 = .ok (.getfield 19, 3) := by decide +kernel
theorem dX5_findInn_43 : decode cX5_findInn 43 = .ok (.iload 4, 2) := by decide +kernel
theorem dX5_findInn_45 : decode cX5_findInn 45 = .ok (.invokevirtual 210, 3) := by decide +kernel
theorem dX5_findInn_48 : decode cX5_findInn 48 = .ok (.iconst (-1), 1) := by decide +kernel
theorem dX5_findInn_49 : decode cX5_findInn 49 = .ok (.if_icmp .eq 6, 3) := by decide +kernel
theorem dX5_findInn_52 : decode cX5_findInn 52 = .ok (.iload 4, 2) := by decide +kernel
theorem dX5_findInn_54 : decode cX5_findInn 54 = .ok (.ireturn, 1) := by decide +kernel
theorem dX5_findInn_55 : decode cX5_findInn 55 = .ok (.iinc 4 1, 3) := by decide +kernel
theorem dX5_findInn_58 : decode cX5_findInn 58 = .ok (.goto (-48), 3) := by decide +kernel
theorem dX5_findInn_61 : decode cX5_findInn 61 = .ok (.iinc 3 1, 3) := by decide +kernel
theorem dX5_findInn_64 : decode cX5_findInn 64 = .ok (.goto (-62), 3) := by decide +kernel
theorem dX5_findInn_67 : decode cX5_findInn 67 = .ok (.iconst (-1), 1) := by decide +kernel
theorem dX5_findInn_68 : decode cX5_findInn 68 = .ok (.ireturn, 1) := by decide +kernel
set_option maxRecDepth 20000 in
theorem ggX5_putUp_X4_priceOf : GoodIn wsX5_putUp wsX4_priceOf := goodIn_r _ [12, 13, 14, 15, 11, 16, 80, 81, 82] (by decide +kernel) (by decide +kernel)
set_option maxRecDepth 20000 in
theorem gX5_putUp_X4_priceOf : GoodIn wsX5_putUp (wsV RX5 213 RX4 yX4_priceOf wsX4_priceOf) := goodIn_app (goodIn_of _ (by decide +kernel)) ggX5_putUp_X4_priceOf
set_option maxRecDepth 20000 in
theorem ggX5_putUp_X1_receive : GoodIn wsX5_putUp wsX1_receive := goodIn_r _ [21, 22, 83, 84] (by decide +kernel) (by decide +kernel)
set_option maxRecDepth 20000 in
theorem gX5_putUp_X1_receive : GoodIn wsX5_putUp (wsV RX5 216 RX1 yX1_receive wsX1_receive) := goodIn_app (goodIn_of _ (by decide +kernel)) ggX5_putUp_X1_receive
set_option maxRecDepth 20000 in
theorem ggX5_putUp_X1_owe : GoodIn wsX5_putUp wsX1_owe := goodIn_r _ [26, 27, 28, 29, 20, 30, 83, 84] (by decide +kernel) (by decide +kernel)
set_option maxRecDepth 20000 in
theorem gX5_putUp_X1_owe : GoodIn wsX5_putUp (wsV RX5 219 RX1 yX1_owe wsX1_owe) := goodIn_app (goodIn_of _ (by decide +kernel)) ggX5_putUp_X1_owe
set_option maxRecDepth 20000 in
theorem ggX5_putUp_X5_layLinen : GoodIn wsX5_putUp wsX5_layLinen := goodIn_r _ [35, 36, 5, 37, 38, 39, 40, 41, 42, 43, 44, 45, 46, 47, 23, 24, 25, 20, 26, 27, 28, 29, 30, 48, 49, 50, 51, 52, 67, 68, 69, 70, 71, 72, 85, 86, 87, 88, 89, 90, 91, 83, 84] (by decide +kernel) (by decide +kernel)
set_option maxRecDepth 20000 in
theorem gX5_putUp_X5_layLinen : GoodIn wsX5_putUp (wsV RX5 222 RX5 yX5_layLinen wsX5_layLinen) := goodIn_app (goodIn_of _ (by decide +kernel)) ggX5_putUp_X5_layLinen
set_option maxRecDepth 20000 in
theorem ggX5_putUp_X4_addSleeper : GoodIn wsX5_putUp wsX4_addSleeper := goodIn_r _ [56, 57, 14, 15, 11, 16, 80, 81, 82] (by decide +kernel) (by decide +kernel)
set_option maxRecDepth 20000 in
theorem gX5_putUp_X4_addSleeper : GoodIn wsX5_putUp (wsV RX5 225 RX4 yX4_addSleeper wsX4_addSleeper) := goodIn_app (goodIn_of _ (by decide +kernel)) ggX5_putUp_X4_addSleeper
set_option maxRecDepth 20000 in
theorem ggX5_putUp_X3_add : GoodIn wsX5_putUp wsX3_add := goodIn_r _ [62, 63, 64, 65, 66, 92, 93, 94, 95] (by decide +kernel) (by decide +kernel)
set_option maxRecDepth 20000 in
theorem gX5_putUp_X3_add : GoodIn wsX5_putUp (wsV RX5 231 RX3 yX3_add wsX3_add) := goodIn_app (goodIn_of _ (by decide +kernel)) ggX5_putUp_X3_add
theorem dX5_putUp_0 : decode cX5_putUp 0 = .ok (.aload_n 0, 1) := by decide +kernel
theorem dX5_putUp_1 : decode cX5_putUp 1 = .ok (.getfield 26, 3) := by decide +kernel
theorem dX5_putUp_4 : decode cX5_putUp 4 = .ok (.getfield 105, 3) := by decide +kernel
theorem dX5_putUp_7 : decode cX5_putUp 7 = .ok (.iload_n 1, 1) := by decide +kernel
theorem dX5_putUp_8 : decode cX5_putUp 8 = .ok (.iaload, 1) := by decide +kernel
theorem dX5_putUp_9 : decode cX5_putUp 9 = .ok (.istore_n 3, 1) := by decide +kernel
theorem dX5_putUp_10 : decode cX5_putUp 10 = .ok (.aload_n 0, 1) := by decide +kernel
theorem dX5_putUp_11 : decode cX5_putUp 11 = .ok (.getfield 26, 3) := by decide +kernel
theorem dX5_putUp_14 : decode cX5_putUp 14 = .ok (.getfield 108, 3) := by decide +kernel
theorem dX5_putUp_17 : decode cX5_putUp 17 = .ok (.iload_n 1, 1) := by decide +kernel
theorem dX5_putUp_18 : decode cX5_putUp 18 = .ok (.iaload, 1) := by decide +kernel
theorem dX5_putUp_19 : decode cX5_putUp 19 = .ok (.istore 4, 2) := by decide +kernel
theorem dX5_putUp_21 : decode cX5_putUp 21 = .ok (.aload_n 0, 1) := by decide +kernel
theorem dX5_putUp_22 : decode cX5_putUp 22 = .ok (.getfield 10, 3) := by decide +kernel
theorem dX5_putUp_25 : decode cX5_putUp 25 = .ok (.iload_n 2, 1) := by decide +kernel
theorem dX5_putUp_26 : decode cX5_putUp 26 = .ok (.iload 4, 2) := by decide +kernel
theorem dX5_putUp_28 : decode cX5_putUp 28 = .ok (.invokevirtual 213, 3) := by decide +kernel
theorem dX5_putUp_31 : decode cX5_putUp 31 = .ok (.istore 5, 2) := by decide +kernel
theorem dX5_putUp_33 : decode cX5_putUp 33 = .ok (.aload_n 0, 1) := by decide +kernel
theorem dX5_putUp_34 : decode cX5_putUp 34 = .ok (.getfield 40, 3) := by decide +kernel
theorem dX5_putUp_37 : decode cX5_putUp 37 = .ok (.iload_n 3, 1) := by decide +kernel
theorem dX5_putUp_38 : decode cX5_putUp 38 = .ok (.aload_n 0, 1) := by decide +kernel
theorem dX5_putUp_39 : decode cX5_putUp 39 = .ok (.getfield 10, 3) := by decide +kernel
theorem dX5_putUp_42 : decode cX5_putUp 42 = .ok (.iload_n 3, 1) := by decide +kernel
theorem dX5_putUp_43 : decode cX5_putUp 43 = .ok (.iload 4, 2) := by decide +kernel
theorem dX5_putUp_45 : decode cX5_putUp 45 = .ok (.invokevirtual 213, 3) := by decide +kernel
theorem dX5_putUp_48 : decode cX5_putUp 48 = .ok (.invokevirtual 216, 3) := by decide +kernel
theorem dX5_putUp_51 : decode cX5_putUp 51 = .ok (.iload_n 2, 1) := by decide +kernel
theorem dX5_putUp_52 : decode cX5_putUp 52 = .ok (.iload_n 3, 1) := by decide +kernel
theorem dX5_putUp_53 : decode cX5_putUp 53 = .ok (.if_icmp .eq 14, 3) := by decide +kernel
theorem dX5_putUp_56 : decode cX5_putUp 56 = .ok (.aload_n 0, 1) := by decide +kernel
theorem dX5_putUp_57 : decode cX5_putUp 57 = .ok (.getfield 40, 3) := by decide +kernel
theorem dX5_putUp_60 : decode cX5_putUp 60 = .ok (.iload_n 3, 1) := by decide +kernel
theorem dX5_putUp_61 : decode cX5_putUp 61 = .ok (.iload_n 2, 1) := by decide +kernel
theorem dX5_putUp_62 : decode cX5_putUp 62 = .ok (.iload 5, 2) := by decide +kernel
theorem dX5_putUp_64 : decode cX5_putUp 64 = .ok (.invokevirtual 219, 3) := by decide +kernel
theorem dX5_putUp_67 : decode cX5_putUp 67 = .ok (.aload_n 0, 1) := by decide +kernel
theorem dX5_putUp_68 : decode cX5_putUp 68 = .ok (.iload_n 2, 1) := by decide +kernel
theorem dX5_putUp_69 : decode cX5_putUp 69 = .ok (.invokevirtual 222, 3) := by decide +kernel
theorem dX5_putUp_72 : decode cX5_putUp 72 = .ok (.aload_n 0, 1) := by decide +kernel
theorem dX5_putUp_73 : decode cX5_putUp 73 = .ok (.getfield 10, 3) := by decide +kernel
theorem dX5_putUp_76 : decode cX5_putUp 76 = .ok (.iload_n 2, 1) := by decide +kernel
theorem dX5_putUp_77 : decode cX5_putUp 77 = .ok (.iload 4, 2) := by decide +kernel
theorem dX5_putUp_79 : decode cX5_putUp 79 = .ok (.invokevirtual 225, 3) := by decide +kernel
theorem dX5_putUp_82 : decode cX5_putUp 82 = .ok (.aload_n 0, 1) := by decide +kernel
theorem dX5_putUp_83 : decode cX5_putUp 83 = .ok (.getfield 33, 3) := by decide +kernel
theorem dX5_putUp_86 : decode cX5_putUp 86 = .ok (.aload_n 0, 1) := by decide +kernel
theorem dX5_putUp_87 : decode cX5_putUp 87 = .ok (.getfield 26, 3) := by decide +kernel
theorem dX5_putUp_90 : decode cX5_putUp 90 = .ok (.getfield 228, 3) := by decide +kernel
theorem dX5_putUp_93 : decode cX5_putUp 93 = .ok (.iload_n 1, 1) := by decide +kernel
theorem dX5_putUp_94 : decode cX5_putUp 94 = .ok (.iaload, 1) := by decide +kernel
theorem dX5_putUp_95 : decode cX5_putUp 95 = .ok (.iload_n 2, 1) := by decide +kernel
theorem dX5_putUp_96 : decode cX5_putUp 96 = .ok (.iload 5, 2) := by decide +kernel
theorem dX5_putUp_98 : decode cX5_putUp 98 = .ok (.bipush 10, 2) := by decide +kernel
theorem dX5_putUp_100 : decode cX5_putUp 100 = .ok (.idiv, 1) := by decide +kernel
theorem dX5_putUp_101 : decode cX5_putUp 101 = .ok (.invokevirtual 231, 3) := by decide +kernel
theorem dX5_putUp_104 : decode cX5_putUp 104 = .ok (.return_, 1) := by decide +kernel
set_option maxRecDepth 20000 in
theorem ggX5_layLinen_X2_giverFor : GoodIn wsX5_layLinen wsX2_giverFor := goodIn_r _ [7, 8, 34, 35, 36, 37, 38, 39, 40] (by decide +kernel) (by decide +kernel)
set_option maxRecDepth 20000 in
theorem gX5_layLinen_X2_giverFor : GoodIn wsX5_layLinen (wsV RX5 210 RX2 yX2_giverFor wsX2_giverFor) := goodIn_app (goodIn_of _ (by decide +kernel)) ggX5_layLinen_X2_giverFor
set_option maxRecDepth 20000 in
theorem ggX5_layLinen_X2_chargeForBorrowing : GoodIn wsX5_layLinen wsX2_chargeForBorrowing := goodIn_r _ [12, 13, 34, 35, 36, 37, 38, 39, 40] (by decide +kernel) (by decide +kernel)
set_option maxRecDepth 20000 in
theorem gX5_layLinen_X2_chargeForBorrowing : GoodIn wsX5_layLinen (wsV RX5 233 RX2 yX2_chargeForBorrowing wsX2_chargeForBorrowing) := goodIn_app (goodIn_of _ (by decide +kernel)) ggX5_layLinen_X2_chargeForBorrowing
set_option maxRecDepth 20000 in
theorem ggX5_layLinen_X1_owe : GoodIn wsX5_layLinen wsX1_owe := goodIn_r _ [18, 19, 20, 21, 17, 22, 41, 42] (by decide +kernel) (by decide +kernel)
set_option maxRecDepth 20000 in
theorem gX5_layLinen_X1_owe : GoodIn wsX5_layLinen (wsV RX5 219 RX1 yX1_owe wsX1_owe) := goodIn_app (goodIn_of _ (by decide +kernel)) ggX5_layLinen_X1_owe
set_option maxRecDepth 20000 in
theorem ggX5_layLinen_X2_take : GoodIn wsX5_layLinen wsX2_take := goodIn_r _ [26, 8, 27, 13, 34, 35, 36, 37, 38, 39, 40] (by decide +kernel) (by decide +kernel)
set_option maxRecDepth 20000 in
theorem gX5_layLinen_X2_take : GoodIn wsX5_layLinen (wsV RX5 236 RX2 yX2_take wsX2_take) := goodIn_app (goodIn_of _ (by decide +kernel)) ggX5_layLinen_X2_take
theorem dX5_layLinen_0 : decode cX5_layLinen 0 = .ok (.aload_n 0, 1) := by decide +kernel
theorem dX5_layLinen_1 : decode cX5_layLinen 1 = .ok (.getfield 19, 3) := by decide +kernel
theorem dX5_layLinen_4 : decode cX5_layLinen 4 = .ok (.iload_n 1, 1) := by decide +kernel
theorem dX5_layLinen_5 : decode cX5_layLinen 5 = .ok (.invokevirtual 210, 3) := by decide +kernel
theorem dX5_layLinen_8 : decode cX5_layLinen 8 = .ok (.istore_n 2, 1) := by decide +kernel
theorem dX5_layLinen_9 : decode cX5_layLinen 9 = .ok (.iload_n 2, 1) := by decide +kernel
theorem dX5_layLinen_10 : decode cX5_layLinen 10 = .ok (.iconst (-1), 1) := by decide +kernel
theorem dX5_layLinen_11 : decode cX5_layLinen 11 = .ok (.if_icmp .ne 4, 3) := by decide +kernel
theorem dX5_layLinen_14 : decode cX5_layLinen 14 = .ok (.return_, 1) := by decide +kernel
theorem dX5_layLinen_15 : decode cX5_layLinen 15 = .ok (.iload_n 2, 1) := by decide +kernel
theorem dX5_layLinen_16 : decode cX5_layLinen 16 = .ok (.iload_n 1, 1) := by decide +kernel
theorem dX5_layLinen_17 : decode cX5_layLinen 17 = .ok (.if_icmp .eq 19, 3) := by decide +kernel
theorem dX5_layLinen_20 : decode cX5_layLinen 20 = .ok (.aload_n 0, 1) := by decide +kernel
theorem dX5_layLinen_21 : decode cX5_layLinen 21 = .ok (.getfield 40, 3) := by decide +kernel
theorem dX5_layLinen_24 : decode cX5_layLinen 24 = .ok (.iload_n 1, 1) := by decide +kernel
theorem dX5_layLinen_25 : decode cX5_layLinen 25 = .ok (.iload_n 2, 1) := by decide +kernel
theorem dX5_layLinen_26 : decode cX5_layLinen 26 = .ok (.aload_n 0, 1) := by decide +kernel
theorem dX5_layLinen_27 : decode cX5_layLinen 27 = .ok (.getfield 19, 3) := by decide +kernel
theorem dX5_layLinen_30 : decode cX5_layLinen 30 = .ok (.invokevirtual 233, 3) := by decide +kernel
theorem dX5_layLinen_33 : decode cX5_layLinen 33 = .ok (.invokevirtual 219, 3) := by decide +kernel
theorem dX5_layLinen_36 : decode cX5_layLinen 36 = .ok (.aload_n 0, 1) := by decide +kernel
theorem dX5_layLinen_37 : decode cX5_layLinen 37 = .ok (.getfield 19, 3) := by decide +kernel
theorem dX5_layLinen_40 : decode cX5_layLinen 40 = .ok (.iload_n 1, 1) := by decide +kernel
theorem dX5_layLinen_41 : decode cX5_layLinen 41 = .ok (.iload_n 2, 1) := by decide +kernel
theorem dX5_layLinen_42 : decode cX5_layLinen 42 = .ok (.invokevirtual 236, 3) := by decide +kernel
theorem dX5_layLinen_45 : decode cX5_layLinen 45 = .ok (.return_, 1) := by decide +kernel
set_option maxRecDepth 20000 in
theorem ggX5_burnEarliest_X3_takeFrom : GoodIn wsX5_burnEarliest wsX3_takeFrom := goodIn_r _ [9, 10, 11, 12, 13, 14, 15, 31, 32, 33, 34] (by decide +kernel) (by decide +kernel)
set_option maxRecDepth 20000 in
theorem gX5_burnEarliest_X3_takeFrom : GoodIn wsX5_burnEarliest (wsV RX5 242 RX3 yX3_takeFrom wsX3_takeFrom) := goodIn_app (goodIn_of _ (by decide +kernel)) ggX5_burnEarliest_X3_takeFrom
set_option maxRecDepth 20000 in
theorem ggX5_burnEarliest_X1_owe : GoodIn wsX5_burnEarliest wsX1_owe := goodIn_r _ [20, 21, 22, 23, 19, 24, 35, 36] (by decide +kernel) (by decide +kernel)
set_option maxRecDepth 20000 in
theorem gX5_burnEarliest_X1_owe : GoodIn wsX5_burnEarliest (wsV RX5 219 RX1 yX1_owe wsX1_owe) := goodIn_app (goodIn_of _ (by decide +kernel)) ggX5_burnEarliest_X1_owe
theorem dX5_burnEarliest_0 : decode cX5_burnEarliest 0 = .ok (.iload_n 3, 1) := by decide +kernel
theorem dX5_burnEarliest_1 : decode cX5_burnEarliest 1 = .ok (.istore 4, 2) := by decide +kernel
theorem dX5_burnEarliest_3 : decode cX5_burnEarliest 3 = .ok (.iconst 0, 1) := by decide +kernel
theorem dX5_burnEarliest_4 : decode cX5_burnEarliest 4 = .ok (.istore 5, 2) := by decide +kernel
theorem dX5_burnEarliest_6 : decode cX5_burnEarliest 6 = .ok (.iload 5, 2) := by decide +kernel
theorem dX5_burnEarliest_8 : decode cX5_burnEarliest 8 = .ok (.aload_n 0, 1) := by decide +kernel
theorem dX5_burnEarliest_9 : decode cX5_burnEarliest 9 = .ok (.getfield 33, 3) := by decide +kernel
theorem dX5_burnEarliest_12 : decode cX5_burnEarliest 12 = .ok (.getfield 239, 3) := by decide +kernel
theorem dX5_burnEarliest_15 : decode cX5_burnEarliest 15 = .ok (.if_icmp .ge 69, 3) := by decide +kernel
theorem dX5_burnEarliest_18 : decode cX5_burnEarliest 18 = .ok (.iload 4, 2) := by decide +kernel
theorem dX5_burnEarliest_20 : decode cX5_burnEarliest 20 = .ok (.ifCond .le 64, 3) := by decide +kernel
theorem dX5_burnEarliest_23 : decode cX5_burnEarliest 23 = .ok (.aload_n 0, 1) := by decide +kernel
theorem dX5_burnEarliest_24 : decode cX5_burnEarliest 24 = .ok (.getfield 33, 3) := by decide +kernel
theorem dX5_burnEarliest_27 : decode cX5_burnEarliest 27 = .ok (.iload 5, 2) := by decide +kernel
theorem dX5_burnEarliest_29 : decode cX5_burnEarliest 29 = .ok (.iload_n 1, 1) := by decide +kernel
theorem dX5_burnEarliest_30 : decode cX5_burnEarliest 30 = .ok (.iload 4, 2) := by decide +kernel
theorem dX5_burnEarliest_32 : decode cX5_burnEarliest 32 = .ok (.invokevirtual 242, 3) := by decide +kernel
theorem dX5_burnEarliest_35 : decode cX5_burnEarliest 35 = .ok (.istore 6, 2) := by decide +kernel
theorem dX5_burnEarliest_37 : decode cX5_burnEarliest 37 = .ok (.iload 4, 2) := by decide +kernel
theorem dX5_burnEarliest_39 : decode cX5_burnEarliest 39 = .ok (.iload 6, 2) := by decide +kernel
theorem dX5_burnEarliest_41 : decode cX5_burnEarliest 41 = .ok (.isub, 1) := by decide +kernel
theorem dX5_burnEarliest_42 : decode cX5_burnEarliest 42 = .ok (.istore 4, 2) := by decide +kernel
theorem dX5_burnEarliest_44 : decode cX5_burnEarliest 44 = .ok (.aload_n 0, 1) := by decide +kernel
theorem dX5_burnEarliest_45 : decode cX5_burnEarliest 45 = .ok (.getfield 33, 3) := by decide +kernel
theorem dX5_burnEarliest_48 : decode cX5_burnEarliest 48 = .ok (.getfield 245, 3) := by decide +kernel
theorem dX5_burnEarliest_51 : decode cX5_burnEarliest 51 = .ok (.iload 5, 2) := by decide +kernel
theorem dX5_burnEarliest_53 : decode cX5_burnEarliest 53 = .ok (.iaload, 1) := by decide +kernel
theorem dX5_burnEarliest_54 : decode cX5_burnEarliest 54 = .ok (.iload_n 2, 1) := by decide +kernel
theorem dX5_burnEarliest_55 : decode cX5_burnEarliest 55 = .ok (.if_icmp .eq 23, 3) := by decide +kernel
theorem dX5_burnEarliest_58 : decode cX5_burnEarliest 58 = .ok (.aload_n 0, 1) := by decide +kernel
theorem dX5_burnEarliest_59 : decode cX5_burnEarliest 59 = .ok (.getfield 40, 3) := by decide +kernel
theorem dX5_burnEarliest_62 : decode cX5_burnEarliest 62 = .ok (.aload_n 0, 1) := by decide +kernel
theorem dX5_burnEarliest_63 : decode cX5_burnEarliest 63 = .ok (.getfield 33, 3) := by decide +kernel
theorem dX5_burnEarliest_66 : decode cX5_burnEarliest 66 = .ok (.getfield 245, 3) := by decide +kernel
theorem dX5_burnEarliest_69 : decode cX5_burnEarliest 69 = .ok (.iload 5, 2) := by decide +kernel
theorem dX5_burnEarliest_71 : decode cX5_burnEarliest 71 = .ok (.iaload, 1) := by decide +kernel
theorem dX5_burnEarliest_72 : decode cX5_burnEarliest 72 = .ok (.iload_n 2, 1) := by decide +kernel
theorem dX5_burnEarliest_73 : decode cX5_burnEarliest 73 = .ok (.iload 6, 2) := by decide +kernel
theorem dX5_burnEarliest_75 : decode cX5_burnEarliest 75 = .ok (.invokevirtual 219, 3) := by decide +kernel
theorem dX5_burnEarliest_78 : decode cX5_burnEarliest 78 = .ok (.iinc 5 1, 3) := by decide +kernel
theorem dX5_burnEarliest_81 : decode cX5_burnEarliest 81 = .ok (.goto (-75), 3) := by decide +kernel
theorem dX5_burnEarliest_84 : decode cX5_burnEarliest 84 = .ok (.return_, 1) := by decide +kernel
theorem dX6_init_0 : decode cX6_init 0 = .ok (.aload_n 0, 1) := by decide +kernel
theorem dX6_init_1 : decode cX6_init 1 = .ok (.invokespecial 1, 3) := by decide +kernel
theorem dX6_init_4 : decode cX6_init 4 = .ok (.aload_n 0, 1) := by decide +kernel
theorem dX6_init_5 : decode cX6_init 5 = .ok (.bipush 8, 2) := by decide +kernel
theorem dX6_init_7 : decode cX6_init 7 = .ok (.newarray .int, 2) := by decide +kernel
theorem dX6_init_9 : decode cX6_init 9 = .ok (.putfield 7, 3) := by decide +kernel
theorem dX6_init_12 : decode cX6_init 12 = .ok (.aload_n 0, 1) := by decide +kernel
theorem dX6_init_13 : decode cX6_init 13 = .ok (.bipush 8, 2) := by decide +kernel
theorem dX6_init_15 : decode cX6_init 15 = .ok (.newarray .int, 2) := by decide +kernel
theorem dX6_init_17 : decode cX6_init 17 = .ok (.putfield 13, 3) := by decide +kernel
theorem dX6_init_20 : decode cX6_init 20 = .ok (.aload_n 0, 1) := by decide +kernel
theorem dX6_init_21 : decode cX6_init 21 = .ok (.bipush 8, 2) := by decide +kernel
theorem dX6_init_23 : decode cX6_init 23 = .ok (.newarray .int, 2) := by decide +kernel
theorem dX6_init_25 : decode cX6_init 25 = .ok (.putfield 16, 3) := by decide +kernel
theorem dX6_init_28 : decode cX6_init 28 = .ok (.aload_n 0, 1) := by decide +kernel
theorem dX6_init_29 : decode cX6_init 29 = .ok (.iconst 4, 1) := by decide +kernel
theorem dX6_init_30 : decode cX6_init 30 = .ok (.newarray .int, 2) := by decide +kernel
theorem dX6_init_32 : decode cX6_init 32 = .ok (.putfield 19, 3) := by decide +kernel
theorem dX6_init_35 : decode cX6_init 35 = .ok (.aload_n 0, 1) := by decide +kernel
theorem dX6_init_36 : decode cX6_init 36 = .ok (.iconst 4, 1) := by decide +kernel
theorem dX6_init_37 : decode cX6_init 37 = .ok (.newarray .int, 2) := by decide +kernel
theorem dX6_init_39 : decode cX6_init 39 = .ok (.putfield 22, 3) := by decide +kernel
theorem dX6_init_42 : decode cX6_init 42 = .ok (.aload_n 0, 1) := by decide +kernel
theorem dX6_init_43 : decode cX6_init 43 = .ok (.iconst 4, 1) := by decide +kernel
theorem dX6_init_44 : decode cX6_init 44 = .ok (.newarray .int, 2) := by decide +kernel
theorem dX6_init_46 : decode cX6_init 46 = .ok (.putfield 25, 3) := by decide +kernel
theorem dX6_init_49 : decode cX6_init 49 = .ok (.aload_n 0, 1) := by decide +kernel
theorem dX6_init_50 : decode cX6_init 50 = .ok (.bipush 16, 2) := by decide +kernel
theorem dX6_init_52 : decode cX6_init 52 = .ok (.newarray .int, 2) := by decide +kernel
theorem dX6_init_54 : decode cX6_init 54 = .ok (.putfield 28, 3) := by decide +kernel
theorem dX6_init_57 : decode cX6_init 57 = .ok (.aload_n 0, 1) := by decide +kernel
theorem dX6_init_58 : decode cX6_init 58 = .ok (.sipush 1208, 3) := by decide +kernel
theorem dX6_init_61 : decode cX6_init 61 = .ok (.newarray .int, 2) := by decide +kernel
theorem dX6_init_63 : decode cX6_init 63 = .ok (.putfield 31, 3) := by decide +kernel
theorem dX6_init_66 : decode cX6_init 66 = .ok (.aload_n 0, 1) := by decide +kernel
theorem dX6_init_67 : decode cX6_init 67 = .ok (.sipush 1208, 3) := by decide +kernel
theorem dX6_init_70 : decode cX6_init 70 = .ok (.newarray .int, 2) := by decide +kernel
theorem dX6_init_72 : decode cX6_init 72 = .ok (.putfield 34, 3) := by decide +kernel
theorem dX6_init_75 : decode cX6_init 75 = .ok (.aload_n 0, 1) := by decide +kernel
theorem dX6_init_76 : decode cX6_init 76 = .ok (.bipush 80, 2) := by decide +kernel
theorem dX6_init_78 : decode cX6_init 78 = .ok (.newarray .int, 2) := by decide +kernel
theorem dX6_init_80 : decode cX6_init 80 = .ok (.putfield 37, 3) := by decide +kernel
theorem dX6_init_83 : decode cX6_init 83 = .ok (.aload_n 0, 1) := by decide +kernel
theorem dX6_init_84 : decode cX6_init 84 = .ok (.bipush 80, 2) := by decide +kernel
theorem dX6_init_86 : decode cX6_init 86 = .ok (.newarray .int, 2) := by decide +kernel
theorem dX6_init_88 : decode cX6_init 88 = .ok (.putfield 40, 3) := by decide +kernel
theorem dX6_init_91 : decode cX6_init 91 = .ok (.aload_n 0, 1) := by decide +kernel
theorem dX6_init_92 : decode cX6_init 92 = .ok (.bipush 80, 2) := by decide +kernel
theorem dX6_init_94 : decode cX6_init 94 = .ok (.newarray .int, 2) := by decide +kernel
theorem dX6_init_96 : decode cX6_init 96 = .ok (.putfield 43, 3) := by decide +kernel
theorem dX6_init_99 : decode cX6_init 99 = .ok (.aload_n 0, 1) := by decide +kernel
theorem dX6_init_100 : decode cX6_init 100 = .ok (.bipush 80, 2) := by decide +kernel
theorem dX6_init_102 : decode cX6_init 102 = .ok (.newarray .int, 2) := by decide +kernel
theorem dX6_init_104 : decode cX6_init 104 = .ok (.putfield 46, 3) := by decide +kernel
theorem dX6_init_107 : decode cX6_init 107 = .ok (.aload_n 0, 1) := by decide +kernel
theorem dX6_init_108 : decode cX6_init 108 = .ok (.bipush 80, 2) := by decide +kernel
theorem dX6_init_110 : decode cX6_init 110 = .ok (.newarray .boolean, 2) := by decide +kernel
theorem dX6_init_112 : decode cX6_init 112 = .ok (.putfield 49, 3) := by decide +kernel
theorem dX6_init_115 : decode cX6_init 115 = .ok (.aload_n 0, 1) := by decide +kernel
theorem dX6_init_116 : decode cX6_init 116 = .ok (.bipush 80, 2) := by decide +kernel
theorem dX6_init_118 : decode cX6_init 118 = .ok (.newarray .int, 2) := by decide +kernel
theorem dX6_init_120 : decode cX6_init 120 = .ok (.putfield 53, 3) := by decide +kernel
theorem dX6_init_123 : decode cX6_init 123 = .ok (.aload_n 0, 1) := by decide +kernel
theorem dX6_init_124 : decode cX6_init 124 = .ok (.bipush 80, 2) := by decide +kernel
theorem dX6_init_126 : decode cX6_init 126 = .ok (.newarray .int, 2) := by decide +kernel
theorem dX6_init_128 : decode cX6_init 128 = .ok (.putfield 56, 3) := by decide +kernel
theorem dX6_init_131 : decode cX6_init 131 = .ok (.aload_n 0, 1) := by decide +kernel
theorem dX6_init_132 : decode cX6_init 132 = .ok (.bipush 80, 2) := by decide +kernel
theorem dX6_init_134 : decode cX6_init 134 = .ok (.newarray .int, 2) := by decide +kernel
theorem dX6_init_136 : decode cX6_init 136 = .ok (.putfield 59, 3) := by decide +kernel
theorem dX6_init_139 : decode cX6_init 139 = .ok (.aload_n 0, 1) := by decide +kernel
theorem dX6_init_140 : decode cX6_init 140 = .ok (.bipush 80, 2) := by decide +kernel
theorem dX6_init_142 : decode cX6_init 142 = .ok (.newarray .int, 2) := by decide +kernel
theorem dX6_init_144 : decode cX6_init 144 = .ok (.putfield 62, 3) := by decide +kernel
theorem dX6_init_147 : decode cX6_init 147 = .ok (.iconst 0, 1) := by decide +kernel
theorem dX6_init_148 : decode cX6_init 148 = .ok (.istore_n 1, 1) := by decide +kernel
theorem dX6_init_149 : decode cX6_init 149 = .ok (.iload_n 1, 1) := by decide +kernel
theorem dX6_init_150 : decode cX6_init 150 = .ok (.bipush 8, 2) := by decide +kernel
theorem dX6_init_152 : decode cX6_init 152 = .ok (.if_icmp .ge 17, 3) := by decide +kernel
theorem dX6_init_155 : decode cX6_init 155 = .ok (.aload_n 0, 1) := by decide +kernel
theorem dX6_init_156 : decode cX6_init 156 = .ok (.getfield 13, 3) := by decide +kernel
theorem dX6_init_159 : decode cX6_init 159 = .ok (.iload_n 1, 1) := by decide +kernel
theorem dX6_init_160 : decode cX6_init 160 = .ok (.bipush 10, 2) := by decide +kernel
theorem dX6_init_162 : decode cX6_init 162 = .ok (.iastore, 1) := by decide +kernel
theorem dX6_init_163 : decode cX6_init 163 = .ok (.iinc 1 1, 3) := by decide +kernel
theorem dX6_init_166 : decode cX6_init 166 = .ok (.goto (-17), 3) := by decide +kernel
theorem dX6_init_169 : decode cX6_init 169 = .ok (.return_, 1) := by decide +kernel
theorem dX6_thrown_0 : decode cX6_thrown 0 = .ok (.aload_n 0, 1) := by decide +kernel
theorem dX6_thrown_1 : decode cX6_thrown 1 = .ok (.getfield 65, 3) := by decide +kernel
theorem dX6_thrown_4 : decode cX6_thrown 4 = .ok (.ireturn, 1) := by decide +kernel
theorem dX6_in_0 : decode cX6_in 0 = .ok (.iload_n 0, 1) := by decide +kernel
theorem dX6_in_1 : decode cX6_in 1 = .ok (.iload_n 1, 1) := by decide +kernel
theorem dX6_in_2 : decode cX6_in 2 = .ok (.if_icmp .lt 12, 3) := by decide +kernel
theorem dX6_in_5 : decode cX6_in 5 = .ok (.iload_n 0, 1) := by decide +kernel
theorem dX6_in_6 : decode cX6_in 6 = .ok (.iload_n 2, 1) := by decide +kernel
theorem dX6_in_7 : decode cX6_in 7 = .ok (.if_icmp .gt 7, 3) := by decide +kernel
theorem dX6_in_10 : decode cX6_in 10 = .ok (.iconst 1, 1) := by decide +kernel
theorem dX6_in_11 : decode cX6_in 11 = .ok (.goto 4, 3) := by decide +kernel
theorem dX6_in_14 : decode cX6_in 14 = .ok (.iconst 0, 1) := by decide +kernel
theorem dX6_in_15 : decode cX6_in 15 = .ok (.ireturn, 1) := by decide +kernel
theorem dX6_isFine_0 : decode cX6_isFine 0 = .ok (.aload_n 0, 1) := by decide +kernel
theorem dX6_isFine_1 : decode cX6_isFine 1 = .ok (.iload_n 1, 1) := by decide +kernel
theorem dX6_isFine_2 : decode cX6_isFine 2 = .ok (.putfield 65, 3) := by decide +kernel
theorem dX6_isFine_5 : decode cX6_isFine 5 = .ok (.iload_n 1, 1) := by decide +kernel
theorem dX6_isFine_6 : decode cX6_isFine 6 = .ok (.ifCond .ne 7, 3) := by decide +kernel
theorem dX6_isFine_9 : decode cX6_isFine 9 = .ok (.iconst 1, 1) := by decide +kernel
theorem dX6_isFine_10 : decode cX6_isFine 10 = .ok (.goto 4, 3) := by decide +kernel
theorem dX6_isFine_13 : decode cX6_isFine 13 = .ok (.iconst 0, 1) := by decide +kernel
theorem dX6_isFine_14 : decode cX6_isFine 14 = .ok (.ireturn, 1) := by decide +kernel
set_option maxRecDepth 20000 in
theorem ggX6_isInn_X6_in : GoodIn wsX6_isInn wsX6_in := goodIn_r _ [4] (by decide +kernel) (by decide +kernel)
set_option maxRecDepth 20000 in
theorem gX6_isInn_X6_in : GoodIn wsX6_isInn (va_wsS RX6 69 yX6_in wsX6_in) := goodIn_app (goodIn_of _ (by decide +kernel)) ggX6_isInn_X6_in
theorem dX6_isInn_0 : decode cX6_isInn 0 = .ok (.iload_n 0, 1) := by decide +kernel
theorem dX6_isInn_1 : decode cX6_isInn 1 = .ok (.iconst 0, 1) := by decide +kernel
theorem dX6_isInn_2 : decode cX6_isInn 2 = .ok (.iconst 3, 1) := by decide +kernel
theorem dX6_isInn_3 : decode cX6_isInn 3 = .ok (.invokestatic 69, 3) := by decide +kernel
theorem dX6_isInn_6 : decode cX6_isInn 6 = .ok (.ireturn, 1) := by decide +kernel
set_option maxRecDepth 20000 in
theorem ggX6_isRoom_X6_isInn : GoodIn wsX6_isRoom wsX6_isInn := goodIn_r _ [4, 5, 6, 3, 7] (by decide +kernel) (by decide +kernel)
set_option maxRecDepth 20000 in
theorem gX6_isRoom_X6_isInn : GoodIn wsX6_isRoom (va_wsS RX6 73 yX6_isInn wsX6_isInn) := goodIn_app (goodIn_of _ (by decide +kernel)) ggX6_isRoom_X6_isInn
set_option maxRecDepth 20000 in
theorem ggX6_isRoom_X6_in : GoodIn wsX6_isRoom wsX6_in := goodIn_r _ [7] (by decide +kernel) (by decide +kernel)
set_option maxRecDepth 20000 in
theorem gX6_isRoom_X6_in : GoodIn wsX6_isRoom (va_wsS RX6 69 yX6_in wsX6_in) := goodIn_app (goodIn_of _ (by decide +kernel)) ggX6_isRoom_X6_in
theorem dX6_isRoom_0 : decode cX6_isRoom 0 = .ok (.iload_n 0, 1) := by decide +kernel
theorem dX6_isRoom_1 : decode cX6_isRoom 1 = .ok (.invokestatic 73, 3) := by decide +kernel
theorem dX6_isRoom_4 : decode cX6_isRoom 4 = .ok (.ifCond .eq 16, 3) := by decide +kernel
theorem dX6_isRoom_7 : decode cX6_isRoom 7 = .ok (.iload_n 1, 1) := by decide +kernel
theorem dX6_isRoom_8 : decode cX6_isRoom 8 = .ok (.iconst 0, 1) := by decide +kernel
theorem dX6_isRoom_9 : decode cX6_isRoom 9 = .ok (.iconst 1, 1) := by decide +kernel
theorem dX6_isRoom_10 : decode cX6_isRoom 10 = .ok (.invokestatic 69, 3) := by decide +kernel
theorem dX6_isRoom_13 : decode cX6_isRoom 13 = .ok (.ifCond .eq 7, 3) := by decide +kernel
theorem dX6_isRoom_16 : decode cX6_isRoom 16 = .ok (.iconst 1, 1) := by decide +kernel
theorem dX6_isRoom_17 : decode cX6_isRoom 17 = .ok (.goto 4, 3) := by decide +kernel
theorem dX6_isRoom_20 : decode cX6_isRoom 20 = .ok (.iconst 0, 1) := by decide +kernel
theorem dX6_isRoom_21 : decode cX6_isRoom 21 = .ok (.ireturn, 1) := by decide +kernel
set_option maxRecDepth 20000 in
theorem ggX6_isGuest_X6_in : GoodIn wsX6_isGuest wsX6_in := goodIn_r _ [4] (by decide +kernel) (by decide +kernel)
set_option maxRecDepth 20000 in
theorem gX6_isGuest_X6_in : GoodIn wsX6_isGuest (va_wsS RX6 69 yX6_in wsX6_in) := goodIn_app (goodIn_of _ (by decide +kernel)) ggX6_isGuest_X6_in
theorem dX6_isGuest_0 : decode cX6_isGuest 0 = .ok (.iload_n 0, 1) := by decide +kernel
theorem dX6_isGuest_1 : decode cX6_isGuest 1 = .ok (.iconst 0, 1) := by decide +kernel
theorem dX6_isGuest_2 : decode cX6_isGuest 2 = .ok (.bipush 9, 2) := by decide +kernel
theorem dX6_isGuest_4 : decode cX6_isGuest 4 = .ok (.invokestatic 69, 3) := by decide +kernel
theorem dX6_isGuest_7 : decode cX6_isGuest 7 = .ok (.ireturn, 1) := by decide +kernel
set_option maxRecDepth 20000 in
theorem ggX6_setRooms_X6_isRoom : GoodIn wsX6_setRooms wsX6_isRoom := goodIn_r _ [6, 7, 8, 5, 9, 10, 11, 12] (by decide +kernel) (by decide +kernel)
set_option maxRecDepth 20000 in
theorem gX6_setRooms_X6_isRoom : GoodIn wsX6_setRooms (va_wsS RX6 77 yX6_isRoom wsX6_isRoom) := goodIn_app (goodIn_of _ (by decide +kernel)) ggX6_setRooms_X6_isRoom
set_option maxRecDepth 20000 in
theorem ggX6_setRooms_X6_in : GoodIn wsX6_setRooms wsX6_in := goodIn_r _ [12] (by decide +kernel) (by decide +kernel)
set_option maxRecDepth 20000 in
theorem gX6_setRooms_X6_in : GoodIn wsX6_setRooms (va_wsS RX6 69 yX6_in wsX6_in) := goodIn_app (goodIn_of _ (by decide +kernel)) ggX6_setRooms_X6_in
set_option maxRecDepth 20000 in
theorem ggX6_setRooms_X6_isFine : GoodIn wsX6_setRooms wsX6_isFine := goodIn_r _ [16, 17, 18, 19, 20, 21, 22, 23, 24, 25, 26, 27, 28, 29, 30, 31, 32, 33, 34, 35, 36, 37, 38, 39, 40, 41] (by decide +kernel) (by decide +kernel)
set_option maxRecDepth 20000 in
theorem gX6_setRooms_X6_isFine : GoodIn wsX6_setRooms (wsV RX6 81 RX6 yX6_isFine wsX6_isFine) := goodIn_app (goodIn_of _ (by decide +kernel)) ggX6_setRooms_X6_isFine
theorem dX6_setRooms_0 : decode cX6_setRooms 0 = .ok (.aload_n 0, 1) := by decide +kernel
theorem dX6_setRooms_1 : decode cX6_setRooms 1 = .ok (.iload_n 1, 1) := by decide +kernel
theorem dX6_setRooms_2 : decode cX6_setRooms 2 = .ok (.iload_n 2, 1) := by decide +kernel
theorem dX6_setRooms_3 : decode cX6_setRooms 3 = .ok (.invokestatic 77, 3) := by decide +kernel
theorem dX6_setRooms_6 : decode cX6_setRooms 6 = .ok (.ifCond .ne 7, 3) := by decide +kernel
theorem dX6_setRooms_9 : decode cX6_setRooms 9 = .ok (.iconst 1, 1) := by decide +kernel
theorem dX6_setRooms_10 : decode cX6_setRooms 10 = .ok (.goto 29, 3) := by decide +kernel
theorem dX6_setRooms_13 : decode cX6_setRooms 13 = .ok (.iload_n 3, 1) := by decide +kernel
theorem dX6_setRooms_14 : decode cX6_setRooms 14 = .ok (.iconst 0, 1) := by decide +kernel
theorem dX6_setRooms_15 : decode cX6_setRooms 15 = .ok (.bipush 10, 2) := by decide +kernel
theorem dX6_setRooms_17 : decode cX6_setRooms 17 = .ok (.invokestatic 69, 3) := by decide +kernel
theorem dX6_setRooms_20 : decode cX6_setRooms 20 = .ok (.ifCond .eq 14, 3) := by decide +kernel
theorem dX6_setRooms_23 : decode cX6_setRooms 23 = .ok (.iload 4, 2) := by decide +kernel
theorem dX6_setRooms_25 : decode cX6_setRooms 25 = .ok (.iconst 1, 1) := by decide +kernel
theorem dX6_setRooms_26 : decode cX6_setRooms 26 = .ok (.bipush 100, 2) := by decide +kernel
theorem dX6_setRooms_28 : decode cX6_setRooms 28 = .ok (.invokestatic 69, 3) := by decide +kernel
theorem dX6_setRooms_31 : decode cX6_setRooms 31 = .ok (.ifCond .ne 7, 3) := by decide +kernel
theorem dX6_setRooms_34 : decode cX6_setRooms 34 = .ok (.iconst 2, 1) := by decide +kernel
theorem dX6_setRooms_35 : decode cX6_setRooms 35 = .ok (.goto 4, 3) := by decide +kernel
theorem dX6_setRooms_38 : decode cX6_setRooms 38 = .ok (.iconst 0, 1) := by decide +kernel
theorem dX6_setRooms_39 : decode cX6_setRooms 39 = .ok (.invokevirtual 81, 3) := by decide +kernel
theorem dX6_setRooms_42 : decode cX6_setRooms 42 = .ok (.ifCond .ne 5, 3) := by decide +kernel
theorem dX6_setRooms_45 : decode cX6_setRooms 45 = .ok (.iconst 0, 1) := by decide +kernel
theorem dX6_setRooms_46 : decode cX6_setRooms 46 = .ok (.ireturn, 1) := by decide +kernel
theorem dX6_setRooms_47 : decode cX6_setRooms 47 = .ok (.aload_n 0, 1) := by decide +kernel
theorem dX6_setRooms_48 : decode cX6_setRooms 48 = .ok (.getfield 7, 3) := by decide +kernel
theorem dX6_setRooms_51 : decode cX6_setRooms 51 = .ok (.iconst 2, 1) := by decide +kernel
theorem dX6_setRooms_52 : decode cX6_setRooms 52 = .ok (.iload_n 1, 1) := by decide +kernel
theorem dX6_setRooms_53 : decode cX6_setRooms 53 = .ok (.imul, 1) := by decide +kernel
theorem dX6_setRooms_54 : decode cX6_setRooms 54 = .ok (.iload_n 2, 1) := by decide +kernel
theorem dX6_setRooms_55 : decode cX6_setRooms 55 = .ok (.iadd, 1) := by decide +kernel
theorem dX6_setRooms_56 : decode cX6_setRooms 56 = .ok (.iaload, 1) := by decide +kernel
theorem dX6_setRooms_57 : decode cX6_setRooms 57 = .ok (.istore 5, 2) := by decide +kernel
theorem dX6_setRooms_59 : decode cX6_setRooms 59 = .ok (.aload_n 0, 1) := by decide +kernel
theorem dX6_setRooms_60 : decode cX6_setRooms 60 = .ok (.getfield 7, 3) := by decide +kernel
theorem dX6_setRooms_63 : decode cX6_setRooms 63 = .ok (.iconst 2, 1) := by decide +kernel
theorem dX6_setRooms_64 : decode cX6_setRooms 64 = .ok (.iload_n 1, 1) := by decide +kernel
theorem dX6_setRooms_65 : decode cX6_setRooms 65 = .ok (.imul, 1) := by decide +kernel
theorem dX6_setRooms_66 : decode cX6_setRooms 66 = .ok (.iload_n 2, 1) := by decide +kernel
theorem dX6_setRooms_67 : decode cX6_setRooms 67 = .ok (.iadd, 1) := by decide +kernel
theorem dX6_setRooms_68 : decode cX6_setRooms 68 = .ok (.iload_n 3, 1) := by decide +kernel
theorem dX6_setRooms_69 : decode cX6_setRooms 69 = .ok (.iastore, 1) := by decide +kernel
theorem dX6_setRooms_70 : decode cX6_setRooms 70 = .ok (.aload_n 0, 1) := by decide +kernel
theorem dX6_setRooms_71 : decode cX6_setRooms 71 = .ok (.getfield 13, 3) := by decide +kernel
theorem dX6_setRooms_74 : decode cX6_setRooms 74 = .ok (.iconst 2, 1) := by decide +kernel
theorem dX6_setRooms_75 : decode cX6_setRooms 75 = .ok (.iload_n 1, 1) := by decide +kernel
theorem dX6_setRooms_76 : decode cX6_setRooms 76 = .ok (.imul, 1) := by decide +kernel
theorem dX6_setRooms_77 : decode cX6_setRooms 77 = .ok (.iload_n 2, 1) := by decide +kernel
theorem dX6_setRooms_78 : decode cX6_setRooms 78 = .ok (.iadd, 1) := by decide +kernel
theorem dX6_setRooms_79 : decode cX6_setRooms 79 = .ok (.iload 4, 2) := by decide +kernel
theorem dX6_setRooms_81 : decode cX6_setRooms 81 = .ok (.iastore, 1) := by decide +kernel
theorem dX6_setRooms_82 : decode cX6_setRooms 82 = .ok (.iload 5, 2) := by decide +kernel
theorem dX6_setRooms_84 : decode cX6_setRooms 84 = .ok (.ireturn, 1) := by decide +kernel
set_option maxRecDepth 20000 in
theorem ggX6_buyLinen_X6_isInn : GoodIn wsX6_buyLinen wsX6_isInn := goodIn_r _ [5, 6, 7, 4, 8] (by decide +kernel) (by decide +kernel)
set_option maxRecDepth 20000 in
theorem gX6_buyLinen_X6_isInn : GoodIn wsX6_buyLinen (va_wsS RX6 73 yX6_isInn wsX6_isInn) := goodIn_app (goodIn_of _ (by decide +kernel)) ggX6_buyLinen_X6_isInn
set_option maxRecDepth 20000 in
theorem ggX6_buyLinen_X6_in : GoodIn wsX6_buyLinen wsX6_in := goodIn_r _ [8] (by decide +kernel) (by decide +kernel)
set_option maxRecDepth 20000 in
theorem gX6_buyLinen_X6_in : GoodIn wsX6_buyLinen (va_wsS RX6 69 yX6_in wsX6_in) := goodIn_app (goodIn_of _ (by decide +kernel)) ggX6_buyLinen_X6_in
set_option maxRecDepth 20000 in
theorem ggX6_buyLinen_X6_isFine : GoodIn wsX6_buyLinen wsX6_isFine := goodIn_r _ [12, 13, 14, 15, 16, 17, 18, 19, 20, 21, 22, 23, 24, 25, 26, 27, 28, 29, 30, 31, 32, 33, 34, 35, 36, 37] (by decide +kernel) (by decide +kernel)
set_option maxRecDepth 20000 in
theorem gX6_buyLinen_X6_isFine : GoodIn wsX6_buyLinen (wsV RX6 81 RX6 yX6_isFine wsX6_isFine) := goodIn_app (goodIn_of _ (by decide +kernel)) ggX6_buyLinen_X6_isFine
theorem dX6_buyLinen_0 : decode cX6_buyLinen 0 = .ok (.aload_n 0, 1) := by decide +kernel
theorem dX6_buyLinen_1 : decode cX6_buyLinen 1 = .ok (.iload_n 1, 1) := by decide +kernel
theorem dX6_buyLinen_2 : decode cX6_buyLinen 2 = .ok (.invokestatic 73, 3) := by decide +kernel
theorem dX6_buyLinen_5 : decode cX6_buyLinen 5 = .ok (.ifCond .ne 7, 3) := by decide +kernel
theorem dX6_buyLinen_8 : decode cX6_buyLinen 8 = .ok (.iconst 1, 1) := by decide +kernel
theorem dX6_buyLinen_9 : decode cX6_buyLinen 9 = .ok (.goto 18, 3) := by decide +kernel
theorem dX6_buyLinen_12 : decode cX6_buyLinen 12 = .ok (.iload_n 2, 1) := by decide +kernel
theorem dX6_buyLinen_13 : decode cX6_buyLinen 13 = .ok (.iconst 1, 1) := by decide +kernel
theorem dX6_buyLinen_14 : decode cX6_buyLinen 14 = .ok (.bipush 20, 2) := by decide +kernel
theorem dX6_buyLinen_16 : decode cX6_buyLinen 16 = .ok (.invokestatic 69, 3) := by decide +kernel
theorem dX6_buyLinen_19 : decode cX6_buyLinen 19 = .ok (.ifCond .ne 7, 3) := by decide +kernel
theorem dX6_buyLinen_22 : decode cX6_buyLinen 22 = .ok (.iconst 2, 1) := by decide +kernel
theorem dX6_buyLinen_23 : decode cX6_buyLinen 23 = .ok (.goto 4, 3) := by decide +kernel
theorem dX6_buyLinen_26 : decode cX6_buyLinen 26 = .ok (.iconst 0, 1) := by decide +kernel
theorem dX6_buyLinen_27 : decode cX6_buyLinen 27 = .ok (.invokevirtual 81, 3) := by decide +kernel
theorem dX6_buyLinen_30 : decode cX6_buyLinen 30 = .ok (.ifCond .ne 5, 3) := by decide +kernel
theorem dX6_buyLinen_33 : decode cX6_buyLinen 33 = .ok (.iconst 0, 1) := by decide +kernel
theorem dX6_buyLinen_34 : decode cX6_buyLinen 34 = .ok (.ireturn, 1) := by decide +kernel
theorem dX6_buyLinen_35 : decode cX6_buyLinen 35 = .ok (.aload_n 0, 1) := by decide +kernel
theorem dX6_buyLinen_36 : decode cX6_buyLinen 36 = .ok (.getfield 19, 3) := by decide +kernel
theorem dX6_buyLinen_39 : decode cX6_buyLinen 39 = .ok (.iload_n 1, 1) := by decide +kernel
theorem dX6_buyLinen_40 : decode cX6_buyLinen 40 = .ok (.dup2, 1) := by decide +kernel
theorem dX6_buyLinen_41 : decode cX6_buyLinen 41 = .ok (.iaload, 1) := by decide +kernel
theorem dX6_buyLinen_42 : decode cX6_buyLinen 42 = .ok (.iload_n 2, 1) := by decide +kernel
theorem dX6_buyLinen_43 : decode cX6_buyLinen 43 = .ok (.iadd, 1) := by decide +kernel
theorem dX6_buyLinen_44 : decode cX6_buyLinen 44 = .ok (.iastore, 1) := by decide +kernel
theorem dX6_buyLinen_45 : decode cX6_buyLinen 45 = .ok (.aload_n 0, 1) := by decide +kernel
theorem dX6_buyLinen_46 : decode cX6_buyLinen 46 = .ok (.getfield 19, 3) := by decide +kernel
theorem dX6_buyLinen_49 : decode cX6_buyLinen 49 = .ok (.iload_n 1, 1) := by decide +kernel
theorem dX6_buyLinen_50 : decode cX6_buyLinen 50 = .ok (.iaload, 1) := by decide +kernel
theorem dX6_buyLinen_51 : decode cX6_buyLinen 51 = .ok (.ireturn, 1) := by decide +kernel
theorem dX6_setBroken_0 : decode cX6_setBroken 0 = .ok (.aload_n 0, 1) := by decide +kernel
theorem dX6_setBroken_1 : decode cX6_setBroken 1 = .ok (.iconst 0, 1) := by decide +kernel
theorem dX6_setBroken_2 : decode cX6_setBroken 2 = .ok (.putfield 65, 3) := by decide +kernel
theorem dX6_setBroken_5 : decode cX6_setBroken 5 = .ok (.aload_n 0, 1) := by decide +kernel
theorem dX6_setBroken_6 : decode cX6_setBroken 6 = .ok (.getfield 84, 3) := by decide +kernel
theorem dX6_setBroken_9 : decode cX6_setBroken 9 = .ok (.istore_n 2, 1) := by decide +kernel
theorem dX6_setBroken_10 : decode cX6_setBroken 10 = .ok (.aload_n 0, 1) := by decide +kernel
theorem dX6_setBroken_11 : decode cX6_setBroken 11 = .ok (.iload_n 1, 1) := by decide +kernel
theorem dX6_setBroken_12 : decode cX6_setBroken 12 = .ok (.putfield 84, 3) := by decide +kernel
theorem dX6_setBroken_15 : decode cX6_setBroken 15 = .ok (.iload_n 2, 1) := by decide +kernel
theorem dX6_setBroken_16 : decode cX6_setBroken 16 = .ok (.ireturn, 1) := by decide +kernel
theorem dX6_extraOf_0 : decode cX6_extraOf 0 = .ok (.iconst 0, 1) := by decide +kernel
theorem dX6_extraOf_1 : decode cX6_extraOf 1 = .ok (.istore_n 2, 1) := by decide +kernel
theorem dX6_extraOf_2 : decode cX6_extraOf 2 = .ok (.aload_n 0, 1) := by decide +kernel
theorem dX6_extraOf_3 : decode cX6_extraOf 3 = .ok (.getfield 88, 3) := by decide +kernel
theorem dX6_extraOf_6 : decode cX6_extraOf 6 = .ok (.iconst 4, 1) := by decide +kernel
theorem dX6_extraOf_7 : decode cX6_extraOf 7 = .ok (.isub, 1) := by decide +kernel
theorem dX6_extraOf_8 : decode cX6_extraOf 8 = .ok (.istore_n 3, 1) := by decide +kernel
theorem dX6_extraOf_9 : decode cX6_extraOf 9 = .ok (.iload_n 3, 1) := by decide +kernel
theorem dX6_extraOf_10 : decode cX6_extraOf 10 = .ok (.aload_n 0, 1) := by decide +kernel
theorem dX6_extraOf_11 : decode cX6_extraOf 11 = .ok (.getfield 88, 3) := by decide +kernel
theorem dX6_extraOf_14 : decode cX6_extraOf 14 = .ok (.if_icmp .ge 30, 3) := by decide +kernel
theorem dX6_extraOf_17 : decode cX6_extraOf 17 = .ok (.iload_n 2, 1) := by decide +kernel
theorem dX6_extraOf_18 : decode cX6_extraOf 18 = .ok (.iload_n 3, 1) := by decide +kernel
theorem dX6_extraOf_19 : decode cX6_extraOf 19 = .ok (.ifCond .ge 7, 3) := by decide +kernel
theorem dX6_extraOf_22 : decode cX6_extraOf 22 = .ok (.iconst 0, 1) := by decide +kernel
theorem dX6_extraOf_23 : decode cX6_extraOf 23 = .ok (.goto 13, 3) := by decide +kernel
theorem dX6_extraOf_26 : decode cX6_extraOf 26 = .ok (.aload_n 0, 1) := by decide +kernel
theorem dX6_extraOf_27 : decode cX6_extraOf 27 = .ok (.getfield 34, 3) := by decide +kernel
theorem dX6_extraOf_30 : decode cX6_extraOf 30 = .ok (.iconst 4, 1) := by decide +kernel
theorem dX6_extraOf_31 : decode cX6_extraOf 31 = .ok (.iload_n 3, 1) := by decide +kernel
theorem dX6_extraOf_32 : decode cX6_extraOf 32 = .ok (.imul, 1) := by decide +kernel
theorem dX6_extraOf_33 : decode cX6_extraOf 33 = .ok (.iload_n 1, 1) := by decide +kernel
theorem dX6_extraOf_34 : decode cX6_extraOf 34 = .ok (.iadd, 1) := by decide +kernel
theorem dX6_extraOf_35 : decode cX6_extraOf 35 = .ok (.iaload, 1) := by decide +kernel
theorem dX6_extraOf_36 : decode cX6_extraOf 36 = .ok (.iadd, 1) := by decide +kernel
theorem dX6_extraOf_37 : decode cX6_extraOf 37 = .ok (.istore_n 2, 1) := by decide +kernel
theorem dX6_extraOf_38 : decode cX6_extraOf 38 = .ok (.iinc 3 1, 3) := by decide +kernel
theorem dX6_extraOf_41 : decode cX6_extraOf 41 = .ok (.goto (-32), 3) := by decide +kernel
theorem dX6_extraOf_44 : decode cX6_extraOf 44 = .ok (.iload_n 2, 1) := by decide +kernel
theorem dX6_extraOf_45 : decode cX6_extraOf 45 = .ok (.iconst 4, 1) := by decide +kernel
theorem dX6_extraOf_46 : decode cX6_extraOf 46 = .ok (.idiv, 1) := by decide +kernel
theorem dX6_extraOf_47 : decode cX6_extraOf 47 = .ok (.ireturn, 1) := by decide +kernel
set_option maxRecDepth 20000 in
theorem ggX6_book_X6_isGuest : GoodIn wsX6_book wsX6_isGuest := goodIn_r _ [12, 13, 14, 11, 15] (by decide +kernel) (by decide +kernel)
set_option maxRecDepth 20000 in
theorem gX6_book_X6_isGuest : GoodIn wsX6_book (va_wsS RX6 91 yX6_isGuest wsX6_isGuest) := goodIn_app (goodIn_of _ (by decide +kernel)) ggX6_book_X6_isGuest
set_option maxRecDepth 20000 in
theorem ggX6_book_X6_isRoom : GoodIn wsX6_book wsX6_isRoom := goodIn_r _ [18, 19, 20, 11, 21, 13, 14, 15] (by decide +kernel) (by decide +kernel)
set_option maxRecDepth 20000 in
theorem gX6_book_X6_isRoom : GoodIn wsX6_book (va_wsS RX6 77 yX6_isRoom wsX6_isRoom) := goodIn_app (goodIn_of _ (by decide +kernel)) ggX6_book_X6_isRoom
set_option maxRecDepth 20000 in
theorem ggX6_book_X6_extraOf : GoodIn wsX6_book wsX6_extraOf := goodIn_r _ [25, 1, 26, 32, 33, 34, 35, 36, 37, 38, 39, 40, 41, 42, 43, 44, 45, 46, 47, 48, 49, 50, 51, 52, 53, 54, 55] (by decide +kernel) (by decide +kernel)
set_option maxRecDepth 20000 in
theorem gX6_book_X6_extraOf : GoodIn wsX6_book (wsV RX6 97 RX6 yX6_extraOf wsX6_extraOf) := goodIn_app (goodIn_of _ (by decide +kernel)) ggX6_book_X6_extraOf
set_option maxRecDepth 20000 in
theorem ggX6_book_X6_isFine : GoodIn wsX6_book wsX6_isFine := goodIn_r _ [30, 31, 32, 33, 34, 35, 36, 37, 38, 39, 40, 41, 42, 43, 44, 45, 46, 47, 48, 49, 50, 51, 52, 53, 54, 55] (by decide +kernel) (by decide +kernel)
set_option maxRecDepth 20000 in
theorem gX6_book_X6_isFine : GoodIn wsX6_book (wsV RX6 81 RX6 yX6_isFine wsX6_isFine) := goodIn_app (goodIn_of _ (by decide +kernel)) ggX6_book_X6_isFine
theorem dX6_book_0 : decode cX6_book 0 = .ok (.iload_n 1, 1) := by decide +kernel
theorem dX6_book_1 : decode cX6_book 1 = .ok (.invokestatic 91, 3) := by decide +kernel
theorem dX6_book_4 : decode cX6_book 4 = .ok (.ifCond .eq 11, 3) := by decide +kernel
theorem dX6_book_7 : decode cX6_book 7 = .ok (.iload_n 2, 1) := by decide +kernel
theorem dX6_book_8 : decode cX6_book 8 = .ok (.iload_n 3, 1) := by decide +kernel
theorem dX6_book_9 : decode cX6_book 9 = .ok (.invokestatic 77, 3) := by decide +kernel
theorem dX6_book_12 : decode cX6_book 12 = .ok (.ifCond .ne 7, 3) := by decide +kernel
theorem dX6_book_15 : decode cX6_book 15 = .ok (.iconst 1, 1) := by decide +kernel
theorem dX6_book_16 : decode cX6_book 16 = .ok (.goto 42, 3) := by decide +kernel
theorem dX6_book_19 : decode cX6_book 19 = .ok (.iload 4, 2) := by decide +kernel
theorem dX6_book_21 : decode cX6_book 21 = .ok (.aload_n 0, 1) := by decide +kernel
theorem dX6_book_22 : decode cX6_book 22 = .ok (.getfield 88, 3) := by decide +kernel
theorem dX6_book_25 : decode cX6_book 25 = .ok (.if_icmp .lt 15, 3) := by decide +kernel
theorem dX6_book_28 : decode cX6_book 28 = .ok (.iload 4, 2) := by decide +kernel
theorem dX6_book_30 : decode cX6_book 30 = .ok (.aload_n 0, 1) := by decide +kernel
theorem dX6_book_31 : decode cX6_book 31 = .ok (.getfield 88, 3) := by decide +kernel
theorem dX6_book_34 : decode cX6_book 34 = .ok (.isub, 1) := by decide +kernel
theorem dX6_book_35 : decode cX6_book 35 = .ok (.bipush 10, 2) := by decide +kernel
theorem dX6_book_37 : decode cX6_book 37 = .ok (.if_icmp .le 7, 3) := by decide +kernel
theorem dX6_book_40 : decode cX6_book 40 = .ok (.iconst 2, 1) := by decide +kernel
theorem dX6_book_41 : decode cX6_book 41 = .ok (.goto 17, 3) := by decide +kernel
theorem dX6_book_44 : decode cX6_book 44 = .ok (.aload_n 0, 1) := by decide +kernel
theorem dX6_book_45 : decode cX6_book 45 = .ok (.getfield 94, 3) := by decide +kernel
theorem dX6_book_48 : decode cX6_book 48 = .ok (.bipush 80, 2) := by decide +kernel
theorem dX6_book_50 : decode cX6_book 50 = .ok (.if_icmp .ne 7, 3) := by decide +kernel
theorem dX6_book_53 : decode cX6_book 53 = .ok (.iconst 3, 1) := by decide +kernel
theorem dX6_book_54 : decode cX6_book 54 = .ok (.goto 4, 3) := by decide +kernel
theorem dX6_book_57 : decode cX6_book 57 = .ok (.iconst 0, 1) := by decide +kernel
theorem dX6_book_58 : decode cX6_book 58 = .ok (.istore 5, 2) := by decide +kernel
theorem dX6_book_60 : decode cX6_book 60 = .ok (.iconst 0, 1) := by decide +kernel
theorem dX6_book_61 : decode cX6_book 61 = .ok (.istore 6, 2) := by decide +kernel
theorem dX6_book_63 : decode cX6_book 63 = .ok (.iconst 0, 1) := by decide +kernel
theorem dX6_book_64 : decode cX6_book 64 = .ok (.istore 7, 2) := by decide +kernel
theorem dX6_book_66 : decode cX6_book 66 = .ok (.iload 7, 2) := by decide +kernel
theorem dX6_book_68 : decode cX6_book 68 = .ok (.aload_n 0, 1) := by decide +kernel
theorem dX6_book_69 : decode cX6_book 69 = .ok (.getfield 94, 3) := by decide +kernel
theorem dX6_book_72 : decode cX6_book 72 = .ok (.if_icmp .ge 53, 3) := by decide +kernel
theorem dX6_book_75 : decode cX6_book 75 = .ok (.iload 6, 2) := by decide +kernel
theorem dX6_book_77 : decode cX6_book 77 = .ok (.aload_n 0, 1) := by decide +kernel
theorem dX6_book_78 : decode cX6_book 78 = .ok (.getfield 40, 3) := by decide +kernel
theorem dX6_book_81 : decode cX6_book 81 = .ok (.iload 7, 2) := by decide +kernel
theorem dX6_book_83 : decode cX6_book 83 = .ok (.iaload, 1) := by decide +kernel
theorem dX6_book_84 : decode cX6_book 84 = .ok (.iload_n 2, 1) := by decide +kernel
theorem dX6_book_85 : decode cX6_book 85 = .ok (.if_icmp .ne 30, 3) := by decide +kernel
theorem dX6_book_88 : decode cX6_book 88 = .ok (.aload_n 0, 1) := by decide +kernel
theorem dX6_book_89 : decode cX6_book 89 = .ok (.getfield 43, 3) := by decide +kernel
theorem dX6_book_92 : decode cX6_book 92 = .ok (.iload 7, 2) := by decide +kernel
theorem dX6_book_94 : decode cX6_book 94 = .ok (.iaload, 1) := by decide +kernel
theorem dX6_book_95 : decode cX6_book 95 = .ok (.iload_n 3, 1) := by decide +kernel
theorem dX6_book_96 : decode cX6_book 96 = .ok (.if_icmp .ne 19, 3) := by decide +kernel
theorem dX6_book_99 : decode cX6_book 99 = .ok (.aload_n 0, 1) := by decide +kernel
theorem dX6_book_100 : decode cX6_book 100 = .ok (.getfield 46, 3) := by decide +kernel
theorem dX6_book_103 : decode cX6_book 103 = .ok (.iload 7, 2) := by decide +kernel
theorem dX6_book_105 : decode cX6_book 105 = .ok (.iaload, 1) := by decide +kernel
theorem dX6_book_106 : decode cX6_book 106 = .ok (.iload 4, 2) := by decide +kernel
theorem dX6_book_108 : decode cX6_book 108 = .ok (.if_icmp .ne 7, 3) := by decide +kernel
theorem dX6_book_111 : decode cX6_book 111 = .ok (.iconst 1, 1) := by decide +kernel
theorem dX6_book_112 : decode cX6_book 112 = .ok (.goto 4, 3) := by decide +kernel
theorem dX6_book_115 : decode cX6_book 115 = .ok (.iconst 0, 1) := by decide +kernel
theorem dX6_book_116 : decode cX6_book 116 = .ok (.iadd, 1) := by decide +kernel
theorem dX6_book_117 : decode cX6_book 117 = .ok (.istore 6, 2) := by decide +kernel
theorem dX6_book_119 : decode cX6_book 119 = .ok (.iinc 7 1, 3) := by decide +kernel
theorem dX6_book_122 : decode cX6_book 122 = .ok (.goto (-56), 3) := by decide +kernel
theorem dX6_book_125 : decode cX6_book 125 = .ok (.aload_n 0, 1) := by decide +kernel
theorem dX6_book_126 : decode cX6_book 126 = .ok (.iload 5, 2) := by decide +kernel
theorem dX6_book_128 : decode cX6_book 128 = .ok (.ifCond .ne 28, 3) := by decide +kernel
theorem dX6_book_131 : decode cX6_book 131 = .ok (.iload 6, 2) := by decide +kernel
theorem dX6_book_133 : decode cX6_book 133 = .ok (.aload_n 0, 1) := by decide +kernel
theorem dX6_book_134 : decode cX6_book 134 = .ok (.getfield 7, 3) := by decide +kernel
theorem dX6_book_137 : decode cX6_book 137 = .ok (.iconst 2, 1) := by decide +kernel
theorem dX6_book_138 : decode cX6_book 138 = .ok (.iload_n 2, 1) := by decide +kernel
theorem dX6_book_139 : decode cX6_book 139 = .ok (.imul, 1) := by decide +kernel
theorem dX6_book_140 : decode cX6_book 140 = .ok (.iload_n 3, 1) := by decide +kernel
theorem dX6_book_141 : decode cX6_book 141 = .ok (.iadd, 1) := by decide +kernel
theorem dX6_book_142 : decode cX6_book 142 = .ok (.iaload, 1) := by decide +kernel
theorem dX6_book_143 : decode cX6_book 143 = .ok (.aload_n 0, 1) := by decide +kernel
theorem dX6_book_144 : decode cX6_book 144 = .ok (.iload_n 2, 1) := by decide +kernel
theorem dX6_book_145 : decode cX6_book 145 = .ok (.invokevirtual 97, 3) := by decide +kernel
theorem dX6_book_148 : decode cX6_book 148 = .ok (.iadd, 1) := by decide +kernel
theorem dX6_book_149 : decode cX6_book 149 = .ok (.if_icmp .lt 7, 3) := by decide +kernel
theorem dX6_book_152 : decode cX6_book 152 = .ok (.iconst 3, 1) := by decide +kernel
theorem dX6_book_153 : decode cX6_book 153 = .ok (.goto 5, 3) := by decide +kernel
theorem dX6_book_156 : decode cX6_book 156 = .ok (.iload 5, 2) := by decide +kernel
theorem dX6_book_158 : decode cX6_book 158 = .ok (.invokevirtual 81, 3) := by decide +kernel
theorem dX6_book_161 : decode cX6_book 161 = .ok (.ifCond .ne 5, 3) := by decide +kernel
theorem dX6_book_164 : decode cX6_book 164 = .ok (.iconst 0, 1) := by decide +kernel
theorem dX6_book_165 : decode cX6_book 165 = .ok (.ireturn, 1) := by decide +kernel
theorem dX6_book_166 : decode cX6_book 166 = .ok (.aload_n 0, 1) := by decide +kernel
theorem dX6_book_167 : decode cX6_book 167 = .ok (.getfield 37, 3) := by decide +kernel
theorem dX6_book_170 : decode cX6_book 170 = .ok (.aload_n 0, 1) := by decide +kernel
theorem dX6_book_171 : decode cX6_book 171 = .ok (.getfield 94, 3) := by decide +kernel
theorem dX6_book_174 : decode cX6_book 174 = .ok (.iload_n 1, 1) := by decide +kernel
theorem dX6_book_175 : decode cX6_book 175 = .ok (.iastore, 1) := by decide +kernel
theorem dX6_book_176 : decode cX6_book 176 = .ok (.aload_n 0, 1) := by decide +kernel
theorem dX6_book_177 : decode cX6_book 177 = .ok (.getfield 40, 3) := by decide +kernel
theorem dX6_book_180 : decode cX6_book 180 = .ok (.aload_n 0, 1) := by decide +kernel
theorem dX6_book_181 : decode cX6_book 181 = .ok (.getfield 94, 3) := by decide +kernel
theorem dX6_book_184 : decode cX6_book 184 = .ok (.iload_n 2, 1) := by decide +kernel
theorem dX6_book_185 : decode cX6_book 185 = .ok (.iastore, 1) := by decide +kernel
theorem dX6_book_186 : decode cX6_book 186 = .ok (.aload_n 0, 1) := by decide +kernel
theorem dX6_book_187 : decode cX6_book 187 = .ok (.getfield 43, 3) := by decide +kernel
theorem dX6_book_190 : decode cX6_book 190 = .ok (.aload_n 0, 1) := by decide +kernel
theorem dX6_book_191 : decode cX6_book 191 = .ok (.getfield 94, 3) := by decide +kernel
theorem dX6_book_194 : decode cX6_book 194 = .ok (.iload_n 3, 1) := by decide +kernel
theorem dX6_book_195 : decode cX6_book 195 = .ok (.iastore, 1) := by decide +kernel
theorem dX6_book_196 : decode cX6_book 196 = .ok (.aload_n 0, 1) := by decide +kernel
theorem dX6_book_197 : decode cX6_book 197 = .ok (.getfield 46, 3) := by decide +kernel
theorem dX6_book_200 : decode cX6_book 200 = .ok (.aload_n 0, 1) := by decide +kernel
theorem dX6_book_201 : decode cX6_book 201 = .ok (.getfield 94, 3) := by decide +kernel
theorem dX6_book_204 : decode cX6_book 204 = .ok (.iload 4, 2) := by decide +kernel
theorem dX6_book_206 : decode cX6_book 206 = .ok (.iastore, 1) := by decide +kernel
theorem dX6_book_207 : decode cX6_book 207 = .ok (.aload_n 0, 1) := by decide +kernel
theorem dX6_book_208 : decode cX6_book 208 = .ok (.getfield 53, 3) := by decide +kernel
theorem dX6_book_211 : decode cX6_book 211 = .ok (.aload_n 0, 1) := by decide +kernel
theorem dX6_book_212 : decode cX6_book 212 = .ok (.getfield 94, 3) := by decide +kernel
theorem dX6_book_215 : decode cX6_book 215 = .ok (.iconst (-1), 1) := by decide +kernel
theorem dX6_book_216 : decode cX6_book 216 = .ok (.iastore, 1) := by decide +kernel
theorem dX6_book_217 : decode cX6_book 217 = .ok (.aload_n 0, 1) := by decide +kernel
theorem dX6_book_218 : decode cX6_book 218 = .ok (.dup, 1) := by decide +kernel
theorem dX6_book_219 : decode cX6_book 219 = .ok (.getfield 94, 3) := by decide +kernel
theorem dX6_book_222 : decode cX6_book 222 = .ok (.iconst 1, 1) := by decide +kernel
theorem dX6_book_223 : decode cX6_book 223 = .ok (.iadd, 1) := by decide +kernel
theorem dX6_book_224 : decode cX6_book 224 = .ok (.putfield 94, 3) := by decide +kernel
theorem dX6_book_227 : decode cX6_book 227 = .ok (.aload_n 0, 1) := by decide +kernel
theorem dX6_book_228 : decode cX6_book 228 = .ok (.getfield 94, 3) := by decide +kernel
theorem dX6_book_231 : decode cX6_book 231 = .ok (.iconst 1, 1) := by decide +kernel
theorem dX6_book_232 : decode cX6_book 232 = .ok (.isub, 1) := by decide +kernel
theorem dX6_book_233 : decode cX6_book 233 = .ok (.ireturn, 1) := by decide +kernel
theorem dX6_distance_0 : decode cX6_distance 0 = .ok (.iload_n 0, 1) := by decide +kernel
theorem dX6_distance_1 : decode cX6_distance 1 = .ok (.iload_n 1, 1) := by decide +kernel
theorem dX6_distance_2 : decode cX6_distance 2 = .ok (.if_icmp .le 9, 3) := by decide +kernel
theorem dX6_distance_5 : decode cX6_distance 5 = .ok (.iload_n 0, 1) := by decide +kernel
theorem dX6_distance_6 : decode cX6_distance 6 = .ok (.iload_n 1, 1) := by decide +kernel
theorem dX6_distance_7 : decode cX6_distance 7 = .ok (.isub, 1) := by decide +kernel
theorem dX6_distance_8 : decode cX6_distance 8 = .ok (.goto 6, 3) := by decide +kernel
theorem dX6_distance_11 : decode cX6_distance 11 = .ok (.iload_n 1, 1) := by decide +kernel
theorem dX6_distance_12 : decode cX6_distance 12 = .ok (.iload_n 0, 1) := by decide +kernel
theorem dX6_distance_13 : decode cX6_distance 13 = .ok (.isub, 1) := by decide +kernel
theorem dX6_distance_14 : decode cX6_distance 14 = .ok (.istore_n 2, 1) := by decide +kernel
theorem dX6_distance_15 : decode cX6_distance 15 = .ok (.iload_n 2, 1) := by decide +kernel
theorem dX6_distance_16 : decode cX6_distance 16 = .ok (.iconst 4, 1) := by decide +kernel
theorem dX6_distance_17 : decode cX6_distance 17 = .ok (.iload_n 2, 1) := by decide +kernel
theorem dX6_distance_18 : decode cX6_distance 18 = .ok (.isub, 1) := by decide +kernel
theorem dX6_distance_19 : decode cX6_distance 19 = .ok (.if_icmp .ge 7, 3) := by decide +kernel
theorem dX6_distance_22 : decode cX6_distance 22 = .ok (.iload_n 2, 1) := by decide +kernel
theorem dX6_distance_23 : decode cX6_distance 23 = .ok (.goto 6, 3) := by decide +kernel
theorem dX6_distance_26 : decode cX6_distance 26 = .ok (.iconst 4, 1) := by decide +kernel
theorem dX6_distance_27 : decode cX6_distance 27 = .ok (.iload_n 2, 1) := by decide +kernel
theorem dX6_distance_28 : decode cX6_distance 28 = .ok (.isub, 1) := by decide +kernel
theorem dX6_distance_29 : decode cX6_distance 29 = .ok (.ireturn, 1) := by decide +kernel
theorem dX6_isFree_0 : decode cX6_isFree 0 = .ok (.aload_n 0, 1) := by decide +kernel
theorem dX6_isFree_1 : decode cX6_isFree 1 = .ok (.getfield 16, 3) := by decide +kernel
theorem dX6_isFree_4 : decode cX6_isFree 4 = .ok (.iconst 2, 1) := by decide +kernel
theorem dX6_isFree_5 : decode cX6_isFree 5 = .ok (.iload_n 1, 1) := by decide +kernel
theorem dX6_isFree_6 : decode cX6_isFree 6 = .ok (.imul, 1) := by decide +kernel
theorem dX6_isFree_7 : decode cX6_isFree 7 = .ok (.iload_n 2, 1) := by decide +kernel
theorem dX6_isFree_8 : decode cX6_isFree 8 = .ok (.iadd, 1) := by decide +kernel
theorem dX6_isFree_9 : decode cX6_isFree 9 = .ok (.iaload, 1) := by decide +kernel
theorem dX6_isFree_10 : decode cX6_isFree 10 = .ok (.aload_n 0, 1) := by decide +kernel
theorem dX6_isFree_11 : decode cX6_isFree 11 = .ok (.getfield 7, 3) := by decide +kernel
theorem dX6_isFree_14 : decode cX6_isFree 14 = .ok (.iconst 2, 1) := by decide +kernel
theorem dX6_isFree_15 : decode cX6_isFree 15 = .ok (.iload_n 1, 1) := by decide +kernel
theorem dX6_isFree_16 : decode cX6_isFree 16 = .ok (.imul, 1) := by decide +kernel
theorem dX6_isFree_17 : decode cX6_isFree 17 = .ok (.iload_n 2, 1) := by decide +kernel
theorem dX6_isFree_18 : decode cX6_isFree 18 = .ok (.iadd, 1) := by decide +kernel
theorem dX6_isFree_19 : decode cX6_isFree 19 = .ok (.iaload, 1) := by decide +kernel
theorem dX6_isFree_20 : decode cX6_isFree 20 = .ok (.if_icmp .ge 7, 3) := by decide +kernel
theorem dX6_isFree_23 : decode cX6_isFree 23 = .ok (.iconst 1, 1) := by decide +kernel
theorem dX6_isFree_24 : decode cX6_isFree 24 = .ok (.goto 4, 3) := by decide +kernel
theorem dX6_isFree_27 : decode cX6_isFree 27 = .ok (.iconst 0, 1) := by decide +kernel
theorem dX6_isFree_28 : decode cX6_isFree 28 = .ok (.ireturn, 1) := by decide +kernel
theorem dX6_richest_0 : decode cX6_richest 0 = .ok (.iconst 0, 1) := by decide +kernel
theorem dX6_richest_1 : decode cX6_richest 1 = .ok (.istore_n 1, 1) := by decide +kernel
theorem dX6_richest_2 : decode cX6_richest 2 = .ok (.iconst 1, 1) := by decide +kernel
theorem dX6_richest_3 : decode cX6_richest 3 = .ok (.istore_n 2, 1) := by decide +kernel
theorem dX6_richest_4 : decode cX6_richest 4 = .ok (.iload_n 2, 1) := by decide +kernel
theorem dX6_richest_5 : decode cX6_richest 5 = .ok (.iconst 4, 1) := by decide +kernel
theorem dX6_richest_6 : decode cX6_richest 6 = .ok (.if_icmp .ge 30, 3) := by decide +kernel
theorem dX6_richest_9 : decode cX6_richest 9 = .ok (.aload_n 0, 1) := by decide +kernel
theorem dX6_richest_10 : decode cX6_richest 10 = .ok (.getfield 19, 3) := by decide +kernel
theorem dX6_richest_13 : decode cX6_richest 13 = .ok (.iload_n 2, 1) := by decide +kernel
theorem dX6_richest_14 : decode cX6_richest 14 = .ok (.iaload, 1) := by decide +kernel
theorem dX6_richest_15 : decode cX6_richest 15 = .ok (.aload_n 0, 1) := by decide +kernel
theorem dX6_richest_16 : decode cX6_richest 16 = .ok (.getfield 19, 3) := by decide +kernel
theorem dX6_richest_19 : decode cX6_richest 19 = .ok (.iload_n 1, 1) := by decide +kernel
theorem dX6_richest_20 : decode cX6_richest 20 = .ok (.iaload, 1) := by decide +kernel
theorem dX6_richest_21 : decode cX6_richest 21 = .ok (.if_icmp .le 7, 3) := by decide +kernel
theorem dX6_richest_24 : decode cX6_richest 24 = .ok (.iload_n 2, 1) := by decide +kernel
theorem dX6_richest_25 : decode cX6_richest 25 = .ok (.goto 4, 3) := by decide +kernel
theorem dX6_richest_28 : decode cX6_richest 28 = .ok (.iload_n 1, 1) := by decide +kernel
theorem dX6_richest_29 : decode cX6_richest 29 = .ok (.istore_n 1, 1) := by decide +kernel
theorem dX6_richest_30 : decode cX6_richest 30 = .ok (.iinc 2 1, 3) := by decide +kernel
theorem dX6_richest_33 : decode cX6_richest 33 = .ok (.goto (-29), 3) := by decide +kernel
theorem dX6_richest_36 : decode cX6_richest 36 = .ok (.iload_n 1, 1) := by decide +kernel
theorem dX6_richest_37 : decode cX6_richest 37 = .ok (.ireturn, 1) := by decide +kernel
set_option maxRecDepth 20000 in
theorem ggX6_finds_X6_richest : GoodIn wsX6_finds wsX6_richest := goodIn_r _ [6, 1, 16, 17, 18, 19, 20, 21, 22, 23, 24, 25, 26, 27, 28, 29, 30, 31, 32, 33, 34, 35, 36, 37, 38, 39] (by decide +kernel) (by decide +kernel)
set_option maxRecDepth 20000 in
theorem gX6_finds_X6_richest : GoodIn wsX6_finds (wsV RX6 101 RX6 yX6_richest wsX6_richest) := goodIn_app (goodIn_of _ (by decide +kernel)) ggX6_finds_X6_richest
set_option maxRecDepth 20000 in
theorem ggX6_finds_X6_isFree : GoodIn wsX6_finds wsX6_isFree := goodIn_r _ [10, 11, 12, 16, 17, 18, 19, 20, 21, 22, 23, 24, 25, 26, 27, 28, 29, 30, 31, 32, 33, 34, 35, 36, 37, 38, 39] (by decide +kernel) (by decide +kernel)
set_option maxRecDepth 20000 in
theorem gX6_finds_X6_isFree : GoodIn wsX6_finds (wsV RX6 105 RX6 yX6_isFree wsX6_isFree) := goodIn_app (goodIn_of _ (by decide +kernel)) ggX6_finds_X6_isFree
set_option maxRecDepth 20000 in
theorem ggX6_finds_X6_distance : GoodIn wsX6_finds wsX6_distance := goodIn_r _ [15] (by decide +kernel) (by decide +kernel)
set_option maxRecDepth 20000 in
theorem gX6_finds_X6_distance : GoodIn wsX6_finds (va_wsS RX6 108 yX6_distance wsX6_distance) := goodIn_app (goodIn_of _ (by decide +kernel)) ggX6_finds_X6_distance
theorem dX6_finds_0 : decode cX6_finds 0 = .ok (.iconst (-1), 1) := by decide +kernel
theorem dX6_finds_1 : decode cX6_finds 1 = .ok (.istore_n 3, 1) := by decide +kernel
theorem dX6_finds_2 : decode cX6_finds 2 = .ok (.iconst 0, 1) := by decide +kernel
theorem dX6_finds_3 : decode cX6_finds 3 = .ok (.istore 4, 2) := by decide +kernel
theorem dX6_finds_5 : decode cX6_finds 5 = .ok (.iload 4, 2) := by decide +kernel
theorem dX6_finds_7 : decode cX6_finds 7 = .ok (.iconst 4, 1) := by decide +kernel
theorem dX6_finds_8 : decode cX6_finds 8 = .ok (.if_icmp .ge 57, 3) := by decide +kernel
theorem dX6_finds_11 : decode cX6_finds 11 = .ok (.aload_n 0, 1) := by decide +kernel
theorem dX6_finds_12 : decode cX6_finds 12 = .ok (.getfield 19, 3) := by decide +kernel
theorem dX6_finds_15 : decode cX6_finds 15 = .ok (.aload_n 0, 1) := by decide +kernel
theorem dX6_finds_16 : decode cX6_finds 16 = .ok (.invokevirtual 101, 3) := by decide +kernel
theorem dX6_finds_19 : decode cX6_finds 19 = .ok (.iaload, 1) := by decide +kernel
theorem dX6_finds_20 : decode cX6_finds 20 = .ok (.ifCond .le 45, 3) := by decide +kernel
theorem dX6_finds_23 : decode cX6_finds 23 = .ok (.aload_n 0, 1) := by decide +kernel
theorem dX6_finds_24 : decode cX6_finds 24 = .ok (.iload 4, 2) := by decide +kernel
theorem dX6_finds_26 : decode cX6_finds 26 = .ok (.iload_n 2, 1) := by decide +kernel
theorem dX6_finds_27 : decode cX6_finds 27 = .ok (.invokevirtual 105, 3) := by decide +kernel
theorem dX6_finds_30 : decode cX6_finds 30 = .ok (.ifCond .eq 27, 3) := by decide +kernel
theorem dX6_finds_33 : decode cX6_finds 33 = .ok (.iload_n 3, 1) := by decide +kernel
theorem dX6_finds_34 : decode cX6_finds 34 = .ok (.iconst (-1), 1) := by decide +kernel
theorem dX6_finds_35 : decode cX6_finds 35 = .ok (.if_icmp .eq 17, 3) := by decide +kernel
theorem dX6_finds_38 : decode cX6_finds 38 = .ok (.iload_n 1, 1) := by decide +kernel
theorem dX6_finds_39 : decode cX6_finds 39 = .ok (.iload 4, 2) := by decide +kernel
theorem dX6_finds_41 : decode cX6_finds 41 = .ok (.invokestatic 108, 3) := by decide +kernel
theorem dX6_finds_44 : decode cX6_finds 44 = .ok (.iload_n 1, 1) := by decide +kernel
theorem dX6_finds_45 : decode cX6_finds 45 = .ok (.iload_n 3, 1) := by decide +kernel
theorem dX6_finds_46 : decode cX6_finds 46 = .ok (.invokestatic 108, 3) := by decide +kernel
theorem dX6_finds_49 : decode cX6_finds 49 = .ok (.if_icmp .ge 8, 3) := by decide +kernel
theorem dX6_finds_52 : decode cX6_finds 52 = .ok (.iload 4, 2) := by decide +kernel
theorem dX6_finds_54 : decode cX6_finds 54 = .ok (.goto 4, 3) := by decide +kernel
theorem dX6_finds_57 : decode cX6_finds 57 = .ok (.iload_n 3, 1) := by decide +kernel
theorem dX6_finds_58 : decode cX6_finds 58 = .ok (.istore_n 3, 1) := by decide +kernel
theorem dX6_finds_59 : decode cX6_finds 59 = .ok (.iinc 4 1, 3) := by decide +kernel
theorem dX6_finds_62 : decode cX6_finds 62 = .ok (.goto (-57), 3) := by decide +kernel
theorem dX6_finds_65 : decode cX6_finds 65 = .ok (.iload_n 3, 1) := by decide +kernel
theorem dX6_finds_66 : decode cX6_finds 66 = .ok (.ireturn, 1) := by decide +kernel
set_option maxRecDepth 20000 in
theorem ggX6_takesLinen_X6_richest : GoodIn wsX6_takesLinen wsX6_richest := goodIn_r _ [9, 1, 10, 11, 12, 13, 14, 15, 16, 17, 18, 19, 20, 21, 22, 23, 24, 25, 26, 27, 28, 29, 30, 31, 32, 33] (by decide +kernel) (by decide +kernel)
set_option maxRecDepth 20000 in
theorem gX6_takesLinen_X6_richest : GoodIn wsX6_takesLinen (wsV RX6 101 RX6 yX6_richest wsX6_richest) := goodIn_app (goodIn_of _ (by decide +kernel)) ggX6_takesLinen_X6_richest
theorem dX6_takesLinen_0 : decode cX6_takesLinen 0 = .ok (.aload_n 0, 1) := by decide +kernel
theorem dX6_takesLinen_1 : decode cX6_takesLinen 1 = .ok (.getfield 19, 3) := by decide +kernel
theorem dX6_takesLinen_4 : decode cX6_takesLinen 4 = .ok (.iload_n 1, 1) := by decide +kernel
theorem dX6_takesLinen_5 : decode cX6_takesLinen 5 = .ok (.iaload, 1) := by decide +kernel
theorem dX6_takesLinen_6 : decode cX6_takesLinen 6 = .ok (.ifCond .le 16, 3) := by decide +kernel
theorem dX6_takesLinen_9 : decode cX6_takesLinen 9 = .ok (.aload_n 0, 1) := by decide +kernel
theorem dX6_takesLinen_10 : decode cX6_takesLinen 10 = .ok (.getfield 19, 3) := by decide +kernel
theorem dX6_takesLinen_13 : decode cX6_takesLinen 13 = .ok (.iload_n 1, 1) := by decide +kernel
theorem dX6_takesLinen_14 : decode cX6_takesLinen 14 = .ok (.dup2, 1) := by decide +kernel
theorem dX6_takesLinen_15 : decode cX6_takesLinen 15 = .ok (.iaload, 1) := by decide +kernel
end
section
theorem dX6_takesLinen_16 : decode cX6_takesLinen 16 = .ok (.iconst 1, 1) := by decide +kernel
theorem dX6_takesLinen_17 : decode cX6_takesLinen 17 = .ok (.isub, 1) := by decide +kernel
theorem dX6_takesLinen_18 : decode cX6_takesLinen 18 = .ok (.iastore, 1) := by decide +kernel
theorem dX6_takesLinen_19 : decode cX6_takesLinen 19 = .ok (.goto 45, 3) := by decide +kernel
theorem dX6_takesLinen_22 : decode cX6_takesLinen 22 = .ok (.aload_n 0, 1) := by decide +kernel
theorem dX6_takesLinen_23 : decode cX6_takesLinen 23 = .ok (.invokevirtual 101, 3) := by decide +kernel
theorem dX6_takesLinen_26 : decode cX6_takesLinen 26 = .ok (.istore_n 2, 1) := by decide +kernel
theorem dX6_takesLinen_27 : decode cX6_takesLinen 27 = .ok (.aload_n 0, 1) := by decide +kernel
theorem dX6_takesLinen_28 : decode cX6_takesLinen 28 = .ok (.getfield 19, 3) := by decide +kernel
theorem dX6_takesLinen_31 : decode cX6_takesLinen 31 = .ok (.iload_n 2, 1) := by decide +kernel
theorem dX6_takesLinen_32 : decode cX6_takesLinen 32 = .ok (.dup2, 1) := by decide +kernel
theorem dX6_takesLinen_33 : decode cX6_takesLinen 33 = .ok (.iaload, 1) := by decide +kernel
theorem dX6_takesLinen_34 : decode cX6_takesLinen 34 = .ok (.iconst 1, 1) := by decide +kernel
theorem dX6_takesLinen_35 : decode cX6_takesLinen 35 = .ok (.isub, 1) := by decide +kernel
theorem dX6_takesLinen_36 : decode cX6_takesLinen 36 = .ok (.iastore, 1) := by decide +kernel
theorem dX6_takesLinen_37 : decode cX6_takesLinen 37 = .ok (.aload_n 0, 1) := by decide +kernel
theorem dX6_takesLinen_38 : decode cX6_takesLinen 38 = .ok (.dup, 1) := by decide +kernel
theorem dX6_takesLinen_39 : decode cX6_takesLinen 39 = .ok (.getfield 112, 3) := by decide +kernel
theorem dX6_takesLinen_42 : decode cX6_takesLinen 42 = .ok (.iconst 1, 1) := by decide +kernel
theorem dX6_takesLinen_43 : decode cX6_takesLinen 43 = .ok (.iadd, 1) := by decide +kernel
theorem dX6_takesLinen_44 : decode cX6_takesLinen 44 = .ok (.putfield 112, 3) := by decide +kernel
theorem dX6_takesLinen_47 : decode cX6_takesLinen 47 = .ok (.aload_n 0, 1) := by decide +kernel
theorem dX6_takesLinen_48 : decode cX6_takesLinen 48 = .ok (.getfield 28, 3) := by decide +kernel
theorem dX6_takesLinen_51 : decode cX6_takesLinen 51 = .ok (.iconst 4, 1) := by decide +kernel
theorem dX6_takesLinen_52 : decode cX6_takesLinen 52 = .ok (.iload_n 1, 1) := by decide +kernel
theorem dX6_takesLinen_53 : decode cX6_takesLinen 53 = .ok (.imul, 1) := by decide +kernel
theorem dX6_takesLinen_54 : decode cX6_takesLinen 54 = .ok (.iload_n 2, 1) := by decide +kernel
theorem dX6_takesLinen_55 : decode cX6_takesLinen 55 = .ok (.iadd, 1) := by decide +kernel
theorem dX6_takesLinen_56 : decode cX6_takesLinen 56 = .ok (.dup2, 1) := by decide +kernel
theorem dX6_takesLinen_57 : decode cX6_takesLinen 57 = .ok (.iaload, 1) := by decide +kernel
theorem dX6_takesLinen_58 : decode cX6_takesLinen 58 = .ok (.aload_n 0, 1) := by decide +kernel
theorem dX6_takesLinen_59 : decode cX6_takesLinen 59 = .ok (.getfield 112, 3) := by decide +kernel
theorem dX6_takesLinen_62 : decode cX6_takesLinen 62 = .ok (.iadd, 1) := by decide +kernel
theorem dX6_takesLinen_63 : decode cX6_takesLinen 63 = .ok (.iastore, 1) := by decide +kernel
theorem dX6_takesLinen_64 : decode cX6_takesLinen 64 = .ok (.aload_n 0, 1) := by decide +kernel
theorem dX6_takesLinen_65 : decode cX6_takesLinen 65 = .ok (.getfield 22, 3) := by decide +kernel
theorem dX6_takesLinen_68 : decode cX6_takesLinen 68 = .ok (.iload_n 1, 1) := by decide +kernel
theorem dX6_takesLinen_69 : decode cX6_takesLinen 69 = .ok (.dup2, 1) := by decide +kernel
theorem dX6_takesLinen_70 : decode cX6_takesLinen 70 = .ok (.iaload, 1) := by decide +kernel
theorem dX6_takesLinen_71 : decode cX6_takesLinen 71 = .ok (.iconst 1, 1) := by decide +kernel
theorem dX6_takesLinen_72 : decode cX6_takesLinen 72 = .ok (.iadd, 1) := by decide +kernel
theorem dX6_takesLinen_73 : decode cX6_takesLinen 73 = .ok (.iastore, 1) := by decide +kernel
theorem dX6_takesLinen_74 : decode cX6_takesLinen 74 = .ok (.return_, 1) := by decide +kernel
set_option maxRecDepth 20000 in
theorem ggX6_come_X6_in : GoodIn wsX6_come wsX6_in := goodIn_r _ [20] (by decide +kernel) (by decide +kernel)
set_option maxRecDepth 20000 in
theorem gX6_come_X6_in : GoodIn wsX6_come (va_wsS RX6 69 yX6_in wsX6_in) := goodIn_app (goodIn_of _ (by decide +kernel)) ggX6_come_X6_in
set_option maxRecDepth 20000 in
theorem ggX6_come_X6_isFine : GoodIn wsX6_come wsX6_isFine := goodIn_r _ [24, 25, 49, 50, 51, 52, 53, 54, 55, 56, 57, 58, 59, 60, 61, 62, 63, 64, 65, 66, 67, 68, 69, 70, 71, 72] (by decide +kernel) (by decide +kernel)
set_option maxRecDepth 20000 in
theorem gX6_come_X6_isFine : GoodIn wsX6_come (wsV RX6 81 RX6 yX6_isFine wsX6_isFine) := goodIn_app (goodIn_of _ (by decide +kernel)) ggX6_come_X6_isFine
set_option maxRecDepth 20000 in
theorem ggX6_come_X6_finds : GoodIn wsX6_come wsX6_finds := goodIn_r _ [29, 30, 31, 32, 33, 19, 34, 35, 36, 37, 38, 8, 39, 40, 41, 42, 49, 50, 51, 52, 53, 54, 55, 56, 57, 58, 59, 60, 61, 62, 63, 64, 65, 66, 67, 68, 69, 70, 71, 72] (by decide +kernel) (by decide +kernel)
set_option maxRecDepth 20000 in
theorem gX6_come_X6_finds : GoodIn wsX6_come (wsV RX6 115 RX6 yX6_finds wsX6_finds) := goodIn_app (goodIn_of _ (by decide +kernel)) ggX6_come_X6_finds
set_option maxRecDepth 20000 in
theorem ggX6_come_X6_takesLinen : GoodIn wsX6_come wsX6_takesLinen := goodIn_r _ [46, 30, 47, 11, 48, 31, 32, 33, 19, 34, 49, 50, 51, 52, 53, 54, 55, 56, 57, 58, 59, 60, 61, 62, 63, 64, 65, 66, 67, 68, 69, 70, 71, 72] (by decide +kernel) (by decide +kernel)
set_option maxRecDepth 20000 in
theorem gX6_come_X6_takesLinen : GoodIn wsX6_come (wsV RX6 118 RX6 yX6_takesLinen wsX6_takesLinen) := goodIn_app (goodIn_of _ (by decide +kernel)) ggX6_come_X6_takesLinen
theorem dX6_come_0 : decode cX6_come 0 = .ok (.aload_n 0, 1) := by decide +kernel
theorem dX6_come_1 : decode cX6_come 1 = .ok (.iload_n 1, 1) := by decide +kernel
theorem dX6_come_2 : decode cX6_come 2 = .ok (.iconst 0, 1) := by decide +kernel
theorem dX6_come_3 : decode cX6_come 3 = .ok (.aload_n 0, 1) := by decide +kernel
theorem dX6_come_4 : decode cX6_come 4 = .ok (.getfield 94, 3) := by decide +kernel
theorem dX6_come_7 : decode cX6_come 7 = .ok (.iconst 1, 1) := by decide +kernel
theorem dX6_come_8 : decode cX6_come 8 = .ok (.isub, 1) := by decide +kernel
theorem dX6_come_9 : decode cX6_come 9 = .ok (.invokestatic 69, 3) := by decide +kernel
theorem dX6_come_12 : decode cX6_come 12 = .ok (.ifCond .ne 7, 3) := by decide +kernel
theorem dX6_come_15 : decode cX6_come 15 = .ok (.iconst 1, 1) := by decide +kernel
theorem dX6_come_16 : decode cX6_come 16 = .ok (.goto 30, 3) := by decide +kernel
theorem dX6_come_19 : decode cX6_come 19 = .ok (.aload_n 0, 1) := by decide +kernel
theorem dX6_come_20 : decode cX6_come 20 = .ok (.getfield 46, 3) := by decide +kernel
theorem dX6_come_23 : decode cX6_come 23 = .ok (.iload_n 1, 1) := by decide +kernel
theorem dX6_come_24 : decode cX6_come 24 = .ok (.iaload, 1) := by decide +kernel
theorem dX6_come_25 : decode cX6_come 25 = .ok (.aload_n 0, 1) := by decide +kernel
theorem dX6_come_26 : decode cX6_come 26 = .ok (.getfield 88, 3) := by decide +kernel
theorem dX6_come_29 : decode cX6_come 29 = .ok (.if_icmp .ne 12, 3) := by decide +kernel
theorem dX6_come_32 : decode cX6_come 32 = .ok (.aload_n 0, 1) := by decide +kernel
theorem dX6_come_33 : decode cX6_come 33 = .ok (.getfield 49, 3) := by decide +kernel
theorem dX6_come_36 : decode cX6_come 36 = .ok (.iload_n 1, 1) := by decide +kernel
theorem dX6_come_37 : decode cX6_come 37 = .ok (.baload, 1) := by decide +kernel
theorem dX6_come_38 : decode cX6_come 38 = .ok (.ifCond .eq 7, 3) := by decide +kernel
theorem dX6_come_41 : decode cX6_come 41 = .ok (.iconst 2, 1) := by decide +kernel
theorem dX6_come_42 : decode cX6_come 42 = .ok (.goto 4, 3) := by decide +kernel
theorem dX6_come_45 : decode cX6_come 45 = .ok (.iconst 0, 1) := by decide +kernel
theorem dX6_come_46 : decode cX6_come 46 = .ok (.invokevirtual 81, 3) := by decide +kernel
theorem dX6_come_49 : decode cX6_come 49 = .ok (.ifCond .ne 5, 3) := by decide +kernel
theorem dX6_come_52 : decode cX6_come 52 = .ok (.iconst 0, 1) := by decide +kernel
theorem dX6_come_53 : decode cX6_come 53 = .ok (.ireturn, 1) := by decide +kernel
theorem dX6_come_54 : decode cX6_come 54 = .ok (.aload_n 0, 1) := by decide +kernel
theorem dX6_come_55 : decode cX6_come 55 = .ok (.getfield 40, 3) := by decide +kernel
theorem dX6_come_58 : decode cX6_come 58 = .ok (.iload_n 1, 1) := by decide +kernel
theorem dX6_come_59 : decode cX6_come 59 = .ok (.iaload, 1) := by decide +kernel
theorem dX6_come_60 : decode cX6_come 60 = .ok (.istore_n 2, 1) := by decide +kernel
theorem dX6_come_61 : decode cX6_come 61 = .ok (.aload_n 0, 1) := by decide +kernel
theorem dX6_come_62 : decode cX6_come 62 = .ok (.getfield 43, 3) := by decide +kernel
theorem dX6_come_65 : decode cX6_come 65 = .ok (.iload_n 1, 1) := by decide +kernel
theorem dX6_come_66 : decode cX6_come 66 = .ok (.iaload, 1) := by decide +kernel
theorem dX6_come_67 : decode cX6_come 67 = .ok (.istore_n 3, 1) := by decide +kernel
theorem dX6_come_68 : decode cX6_come 68 = .ok (.aload_n 0, 1) := by decide +kernel
theorem dX6_come_69 : decode cX6_come 69 = .ok (.iload_n 2, 1) := by decide +kernel
theorem dX6_come_70 : decode cX6_come 70 = .ok (.iload_n 3, 1) := by decide +kernel
theorem dX6_come_71 : decode cX6_come 71 = .ok (.invokevirtual 115, 3) := by decide +kernel
theorem dX6_come_74 : decode cX6_come 74 = .ok (.istore 4, 2) := by decide +kernel
theorem dX6_come_76 : decode cX6_come 76 = .ok (.aload_n 0, 1) := by decide +kernel
theorem dX6_come_77 : decode cX6_come 77 = .ok (.getfield 49, 3) := by decide +kernel
theorem dX6_come_80 : decode cX6_come 80 = .ok (.iload_n 1, 1) := by decide +kernel
theorem dX6_come_81 : decode cX6_come 81 = .ok (.iconst 1, 1) := by decide +kernel
theorem dX6_come_82 : decode cX6_come 82 = .ok (.bastore, 1) := by decide +kernel
theorem dX6_come_83 : decode cX6_come 83 = .ok (.aload_n 0, 1) := by decide +kernel
theorem dX6_come_84 : decode cX6_come 84 = .ok (.getfield 53, 3) := by decide +kernel
theorem dX6_come_87 : decode cX6_come 87 = .ok (.iload_n 1, 1) := by decide +kernel
theorem dX6_come_88 : decode cX6_come 88 = .ok (.iload 4, 2) := by decide +kernel
theorem dX6_come_90 : decode cX6_come 90 = .ok (.iastore, 1) := by decide +kernel
theorem dX6_come_91 : decode cX6_come 91 = .ok (.iload 4, 2) := by decide +kernel
theorem dX6_come_93 : decode cX6_come 93 = .ok (.iconst (-1), 1) := by decide +kernel
theorem dX6_come_94 : decode cX6_come 94 = .ok (.if_icmp .eq 137, 3) := by decide +kernel
theorem dX6_come_97 : decode cX6_come 97 = .ok (.aload_n 0, 1) := by decide +kernel
theorem dX6_come_98 : decode cX6_come 98 = .ok (.getfield 16, 3) := by decide +kernel
theorem dX6_come_101 : decode cX6_come 101 = .ok (.iconst 2, 1) := by decide +kernel
theorem dX6_come_102 : decode cX6_come 102 = .ok (.iload 4, 2) := by decide +kernel
theorem dX6_come_104 : decode cX6_come 104 = .ok (.imul, 1) := by decide +kernel
theorem dX6_come_105 : decode cX6_come 105 = .ok (.iload_n 3, 1) := by decide +kernel
theorem dX6_come_106 : decode cX6_come 106 = .ok (.iadd, 1) := by decide +kernel
theorem dX6_come_107 : decode cX6_come 107 = .ok (.dup2, 1) := by decide +kernel
theorem dX6_come_108 : decode cX6_come 108 = .ok (.iaload, 1) := by decide +kernel
theorem dX6_come_109 : decode cX6_come 109 = .ok (.iconst 1, 1) := by decide +kernel
theorem dX6_come_110 : decode cX6_come 110 = .ok (.iadd, 1) := by decide +kernel
theorem dX6_come_111 : decode cX6_come 111 = .ok (.iastore, 1) := by decide +kernel
theorem dX6_come_112 : decode cX6_come 112 = .ok (.aload_n 0, 1) := by decide +kernel
theorem dX6_come_113 : decode cX6_come 113 = .ok (.iload 4, 2) := by decide +kernel
theorem dX6_come_115 : decode cX6_come 115 = .ok (.invokevirtual 118, 3) := by decide +kernel
theorem dX6_come_118 : decode cX6_come 118 = .ok (.aload_n 0, 1) := by decide +kernel
theorem dX6_come_119 : decode cX6_come 119 = .ok (.getfield 25, 3) := by decide +kernel
theorem dX6_come_122 : decode cX6_come 122 = .ok (.iload_n 2, 1) := by decide +kernel
theorem dX6_come_123 : decode cX6_come 123 = .ok (.dup2, 1) := by decide +kernel
theorem dX6_come_124 : decode cX6_come 124 = .ok (.iaload, 1) := by decide +kernel
theorem dX6_come_125 : decode cX6_come 125 = .ok (.aload_n 0, 1) := by decide +kernel
theorem dX6_come_126 : decode cX6_come 126 = .ok (.getfield 13, 3) := by decide +kernel
theorem dX6_come_129 : decode cX6_come 129 = .ok (.iconst 2, 1) := by decide +kernel
theorem dX6_come_130 : decode cX6_come 130 = .ok (.iload_n 2, 1) := by decide +kernel
theorem dX6_come_131 : decode cX6_come 131 = .ok (.imul, 1) := by decide +kernel
theorem dX6_come_132 : decode cX6_come 132 = .ok (.iload_n 3, 1) := by decide +kernel
theorem dX6_come_133 : decode cX6_come 133 = .ok (.iadd, 1) := by decide +kernel
theorem dX6_come_134 : decode cX6_come 134 = .ok (.iaload, 1) := by decide +kernel
theorem dX6_come_135 : decode cX6_come 135 = .ok (.iadd, 1) := by decide +kernel
theorem dX6_come_136 : decode cX6_come 136 = .ok (.iastore, 1) := by decide +kernel
theorem dX6_come_137 : decode cX6_come 137 = .ok (.aload_n 0, 1) := by decide +kernel
theorem dX6_come_138 : decode cX6_come 138 = .ok (.getfield 28, 3) := by decide +kernel
theorem dX6_come_141 : decode cX6_come 141 = .ok (.iconst 4, 1) := by decide +kernel
theorem dX6_come_142 : decode cX6_come 142 = .ok (.iload_n 2, 1) := by decide +kernel
theorem dX6_come_143 : decode cX6_come 143 = .ok (.imul, 1) := by decide +kernel
theorem dX6_come_144 : decode cX6_come 144 = .ok (.iload 4, 2) := by decide +kernel
theorem dX6_come_146 : decode cX6_come 146 = .ok (.iadd, 1) := by decide +kernel
theorem dX6_come_147 : decode cX6_come 147 = .ok (.dup2, 1) := by decide +kernel
theorem dX6_come_148 : decode cX6_come 148 = .ok (.iaload, 1) := by decide +kernel
theorem dX6_come_149 : decode cX6_come 149 = .ok (.iload 4, 2) := by decide +kernel
theorem dX6_come_151 : decode cX6_come 151 = .ok (.iload_n 2, 1) := by decide +kernel
theorem dX6_come_152 : decode cX6_come 152 = .ok (.if_icmp .ne 7, 3) := by decide +kernel
theorem dX6_come_155 : decode cX6_come 155 = .ok (.iconst 0, 1) := by decide +kernel
theorem dX6_come_156 : decode cX6_come 156 = .ok (.goto 14, 3) := by decide +kernel
theorem dX6_come_159 : decode cX6_come 159 = .ok (.aload_n 0, 1) := by decide +kernel
theorem dX6_come_160 : decode cX6_come 160 = .ok (.getfield 13, 3) := by decide +kernel
theorem dX6_come_163 : decode cX6_come 163 = .ok (.iconst 2, 1) := by decide +kernel
theorem dX6_come_164 : decode cX6_come 164 = .ok (.iload 4, 2) := by decide +kernel
theorem dX6_come_166 : decode cX6_come 166 = .ok (.imul, 1) := by decide +kernel
theorem dX6_come_167 : decode cX6_come 167 = .ok (.iload_n 3, 1) := by decide +kernel
theorem dX6_come_168 : decode cX6_come 168 = .ok (.iadd, 1) := by decide +kernel
theorem dX6_come_169 : decode cX6_come 169 = .ok (.iaload, 1) := by decide +kernel
theorem dX6_come_170 : decode cX6_come 170 = .ok (.iadd, 1) := by decide +kernel
theorem dX6_come_171 : decode cX6_come 171 = .ok (.iastore, 1) := by decide +kernel
theorem dX6_come_172 : decode cX6_come 172 = .ok (.aload_n 0, 1) := by decide +kernel
theorem dX6_come_173 : decode cX6_come 173 = .ok (.getfield 56, 3) := by decide +kernel
theorem dX6_come_176 : decode cX6_come 176 = .ok (.aload_n 0, 1) := by decide +kernel
theorem dX6_come_177 : decode cX6_come 177 = .ok (.getfield 122, 3) := by decide +kernel
theorem dX6_come_180 : decode cX6_come 180 = .ok (.aload_n 0, 1) := by decide +kernel
theorem dX6_come_181 : decode cX6_come 181 = .ok (.getfield 37, 3) := by decide +kernel
theorem dX6_come_184 : decode cX6_come 184 = .ok (.iload_n 1, 1) := by decide +kernel
theorem dX6_come_185 : decode cX6_come 185 = .ok (.iaload, 1) := by decide +kernel
theorem dX6_come_186 : decode cX6_come 186 = .ok (.iastore, 1) := by decide +kernel
theorem dX6_come_187 : decode cX6_come 187 = .ok (.aload_n 0, 1) := by decide +kernel
theorem dX6_come_188 : decode cX6_come 188 = .ok (.getfield 59, 3) := by decide +kernel
theorem dX6_come_191 : decode cX6_come 191 = .ok (.aload_n 0, 1) := by decide +kernel
theorem dX6_come_192 : decode cX6_come 192 = .ok (.getfield 122, 3) := by decide +kernel
theorem dX6_come_195 : decode cX6_come 195 = .ok (.iload 4, 2) := by decide +kernel
theorem dX6_come_197 : decode cX6_come 197 = .ok (.iastore, 1) := by decide +kernel
theorem dX6_come_198 : decode cX6_come 198 = .ok (.aload_n 0, 1) := by decide +kernel
theorem dX6_come_199 : decode cX6_come 199 = .ok (.getfield 62, 3) := by decide +kernel
theorem dX6_come_202 : decode cX6_come 202 = .ok (.aload_n 0, 1) := by decide +kernel
theorem dX6_come_203 : decode cX6_come 203 = .ok (.getfield 122, 3) := by decide +kernel
theorem dX6_come_206 : decode cX6_come 206 = .ok (.aload_n 0, 1) := by decide +kernel
theorem dX6_come_207 : decode cX6_come 207 = .ok (.getfield 13, 3) := by decide +kernel
theorem dX6_come_210 : decode cX6_come 210 = .ok (.iconst 2, 1) := by decide +kernel
theorem dX6_come_211 : decode cX6_come 211 = .ok (.iload 4, 2) := by decide +kernel
theorem dX6_come_213 : decode cX6_come 213 = .ok (.imul, 1) := by decide +kernel
theorem dX6_come_214 : decode cX6_come 214 = .ok (.iload_n 3, 1) := by decide +kernel
theorem dX6_come_215 : decode cX6_come 215 = .ok (.iadd, 1) := by decide +kernel
theorem dX6_come_216 : decode cX6_come 216 = .ok (.iaload, 1) := by decide +kernel
theorem dX6_come_217 : decode cX6_come 217 = .ok (.bipush 10, 2) := by decide +kernel
theorem dX6_come_219 : decode cX6_come 219 = .ok (.idiv, 1) := by decide +kernel
theorem dX6_come_220 : decode cX6_come 220 = .ok (.iastore, 1) := by decide +kernel
theorem dX6_come_221 : decode cX6_come 221 = .ok (.aload_n 0, 1) := by decide +kernel
theorem dX6_come_222 : decode cX6_come 222 = .ok (.dup, 1) := by decide +kernel
theorem dX6_come_223 : decode cX6_come 223 = .ok (.getfield 122, 3) := by decide +kernel
theorem dX6_come_226 : decode cX6_come 226 = .ok (.iconst 1, 1) := by decide +kernel
theorem dX6_come_227 : decode cX6_come 227 = .ok (.iadd, 1) := by decide +kernel
theorem dX6_come_228 : decode cX6_come 228 = .ok (.putfield 122, 3) := by decide +kernel
theorem dX6_come_231 : decode cX6_come 231 = .ok (.iload 4, 2) := by decide +kernel
theorem dX6_come_233 : decode cX6_come 233 = .ok (.ireturn, 1) := by decide +kernel
theorem dX6_pointsOf_0 : decode cX6_pointsOf 0 = .ok (.iconst 0, 1) := by decide +kernel
theorem dX6_pointsOf_1 : decode cX6_pointsOf 1 = .ok (.istore_n 2, 1) := by decide +kernel
theorem dX6_pointsOf_2 : decode cX6_pointsOf 2 = .ok (.iconst 0, 1) := by decide +kernel
theorem dX6_pointsOf_3 : decode cX6_pointsOf 3 = .ok (.istore_n 3, 1) := by decide +kernel
theorem dX6_pointsOf_4 : decode cX6_pointsOf 4 = .ok (.iload_n 3, 1) := by decide +kernel
theorem dX6_pointsOf_5 : decode cX6_pointsOf 5 = .ok (.aload_n 0, 1) := by decide +kernel
theorem dX6_pointsOf_6 : decode cX6_pointsOf 6 = .ok (.getfield 122, 3) := by decide +kernel
theorem dX6_pointsOf_9 : decode cX6_pointsOf 9 = .ok (.if_icmp .ge 32, 3) := by decide +kernel
theorem dX6_pointsOf_12 : decode cX6_pointsOf 12 = .ok (.iload_n 2, 1) := by decide +kernel
theorem dX6_pointsOf_13 : decode cX6_pointsOf 13 = .ok (.aload_n 0, 1) := by decide +kernel
theorem dX6_pointsOf_14 : decode cX6_pointsOf 14 = .ok (.getfield 56, 3) := by decide +kernel
theorem dX6_pointsOf_17 : decode cX6_pointsOf 17 = .ok (.iload_n 3, 1) := by decide +kernel
theorem dX6_pointsOf_18 : decode cX6_pointsOf 18 = .ok (.iaload, 1) := by decide +kernel
theorem dX6_pointsOf_19 : decode cX6_pointsOf 19 = .ok (.iload_n 1, 1) := by decide +kernel
theorem dX6_pointsOf_20 : decode cX6_pointsOf 20 = .ok (.if_icmp .ne 12, 3) := by decide +kernel
theorem dX6_pointsOf_23 : decode cX6_pointsOf 23 = .ok (.aload_n 0, 1) := by decide +kernel
theorem dX6_pointsOf_24 : decode cX6_pointsOf 24 = .ok (.getfield 62, 3) := by decide +kernel
theorem dX6_pointsOf_27 : decode cX6_pointsOf 27 = .ok (.iload_n 3, 1) := by decide +kernel
theorem dX6_pointsOf_28 : decode cX6_pointsOf 28 = .ok (.iaload, 1) := by decide +kernel
theorem dX6_pointsOf_29 : decode cX6_pointsOf 29 = .ok (.goto 4, 3) := by decide +kernel
theorem dX6_pointsOf_32 : decode cX6_pointsOf 32 = .ok (.iconst 0, 1) := by decide +kernel
theorem dX6_pointsOf_33 : decode cX6_pointsOf 33 = .ok (.iadd, 1) := by decide +kernel
theorem dX6_pointsOf_34 : decode cX6_pointsOf 34 = .ok (.istore_n 2, 1) := by decide +kernel
theorem dX6_pointsOf_35 : decode cX6_pointsOf 35 = .ok (.iinc 3 1, 3) := by decide +kernel
theorem dX6_pointsOf_38 : decode cX6_pointsOf 38 = .ok (.goto (-34), 3) := by decide +kernel
theorem dX6_pointsOf_41 : decode cX6_pointsOf 41 = .ok (.iload_n 2, 1) := by decide +kernel
theorem dX6_pointsOf_42 : decode cX6_pointsOf 42 = .ok (.ireturn, 1) := by decide +kernel
set_option maxRecDepth 20000 in
theorem ggX6_burn_X6_isGuest : GoodIn wsX6_burn wsX6_isGuest := goodIn_r _ [9, 10, 11, 8, 12] (by decide +kernel) (by decide +kernel)
set_option maxRecDepth 20000 in
theorem gX6_burn_X6_isGuest : GoodIn wsX6_burn (va_wsS RX6 91 yX6_isGuest wsX6_isGuest) := goodIn_app (goodIn_of _ (by decide +kernel)) ggX6_burn_X6_isGuest
set_option maxRecDepth 20000 in
theorem ggX6_burn_X6_isInn : GoodIn wsX6_burn wsX6_isInn := goodIn_r _ [15, 10, 11, 8, 12] (by decide +kernel) (by decide +kernel)
set_option maxRecDepth 20000 in
theorem gX6_burn_X6_isInn : GoodIn wsX6_burn (va_wsS RX6 73 yX6_isInn wsX6_isInn) := goodIn_app (goodIn_of _ (by decide +kernel)) ggX6_burn_X6_isInn
set_option maxRecDepth 20000 in
theorem ggX6_burn_X6_in : GoodIn wsX6_burn wsX6_in := goodIn_r _ [12] (by decide +kernel) (by decide +kernel)
set_option maxRecDepth 20000 in
theorem gX6_burn_X6_in : GoodIn wsX6_burn (va_wsS RX6 69 yX6_in wsX6_in) := goodIn_app (goodIn_of _ (by decide +kernel)) ggX6_burn_X6_in
set_option maxRecDepth 20000 in
theorem ggX6_burn_X6_pointsOf : GoodIn wsX6_burn wsX6_pointsOf := goodIn_r _ [19, 1, 2, 3, 25, 26, 27, 28, 29, 30, 31, 32, 33, 34, 35, 36, 37, 38, 39, 40, 41, 42, 43, 44, 45, 46, 47, 48] (by decide +kernel) (by decide +kernel)
set_option maxRecDepth 20000 in
theorem gX6_burn_X6_pointsOf : GoodIn wsX6_burn (wsV RX6 125 RX6 yX6_pointsOf wsX6_pointsOf) := goodIn_app (goodIn_of _ (by decide +kernel)) ggX6_burn_X6_pointsOf
set_option maxRecDepth 20000 in
theorem ggX6_burn_X6_isFine : GoodIn wsX6_burn wsX6_isFine := goodIn_r _ [23, 24, 25, 26, 27, 28, 29, 30, 31, 32, 33, 34, 35, 36, 37, 38, 39, 40, 41, 42, 43, 44, 45, 46, 47, 48] (by decide +kernel) (by decide +kernel)
set_option maxRecDepth 20000 in
theorem gX6_burn_X6_isFine : GoodIn wsX6_burn (wsV RX6 81 RX6 yX6_isFine wsX6_isFine) := goodIn_app (goodIn_of _ (by decide +kernel)) ggX6_burn_X6_isFine
theorem dX6_burn_0 : decode cX6_burn 0 = .ok (.iload_n 1, 1) := by decide +kernel
theorem dX6_burn_1 : decode cX6_burn 1 = .ok (.invokestatic 91, 3) := by decide +kernel
theorem dX6_burn_4 : decode cX6_burn 4 = .ok (.ifCond .eq 10, 3) := by decide +kernel
theorem dX6_burn_7 : decode cX6_burn 7 = .ok (.iload_n 2, 1) := by decide +kernel
theorem dX6_burn_8 : decode cX6_burn 8 = .ok (.invokestatic 73, 3) := by decide +kernel
theorem dX6_burn_11 : decode cX6_burn 11 = .ok (.ifCond .ne 7, 3) := by decide +kernel
theorem dX6_burn_14 : decode cX6_burn 14 = .ok (.iconst 1, 1) := by decide +kernel
theorem dX6_burn_15 : decode cX6_burn 15 = .ok (.goto 18, 3) := by decide +kernel
theorem dX6_burn_18 : decode cX6_burn 18 = .ok (.iload_n 3, 1) := by decide +kernel
theorem dX6_burn_19 : decode cX6_burn 19 = .ok (.iconst 1, 1) := by decide +kernel
theorem dX6_burn_20 : decode cX6_burn 20 = .ok (.bipush 100, 2) := by decide +kernel
theorem dX6_burn_22 : decode cX6_burn 22 = .ok (.invokestatic 69, 3) := by decide +kernel
theorem dX6_burn_25 : decode cX6_burn 25 = .ok (.ifCond .ne 7, 3) := by decide +kernel
theorem dX6_burn_28 : decode cX6_burn 28 = .ok (.iconst 2, 1) := by decide +kernel
theorem dX6_burn_29 : decode cX6_burn 29 = .ok (.goto 4, 3) := by decide +kernel
theorem dX6_burn_32 : decode cX6_burn 32 = .ok (.iconst 0, 1) := by decide +kernel
theorem dX6_burn_33 : decode cX6_burn 33 = .ok (.istore 4, 2) := by decide +kernel
theorem dX6_burn_35 : decode cX6_burn 35 = .ok (.aload_n 0, 1) := by decide +kernel
theorem dX6_burn_36 : decode cX6_burn 36 = .ok (.iload 4, 2) := by decide +kernel
theorem dX6_burn_38 : decode cX6_burn 38 = .ok (.ifCond .ne 16, 3) := by decide +kernel
theorem dX6_burn_41 : decode cX6_burn 41 = .ok (.aload_n 0, 1) := by decide +kernel
theorem dX6_burn_42 : decode cX6_burn 42 = .ok (.iload_n 1, 1) := by decide +kernel
theorem dX6_burn_43 : decode cX6_burn 43 = .ok (.invokevirtual 125, 3) := by decide +kernel
theorem dX6_burn_46 : decode cX6_burn 46 = .ok (.iload_n 3, 1) := by decide +kernel
theorem dX6_burn_47 : decode cX6_burn 47 = .ok (.if_icmp .ge 7, 3) := by decide +kernel
theorem dX6_burn_50 : decode cX6_burn 50 = .ok (.iconst 3, 1) := by decide +kernel
theorem dX6_burn_51 : decode cX6_burn 51 = .ok (.goto 5, 3) := by decide +kernel
theorem dX6_burn_54 : decode cX6_burn 54 = .ok (.iload 4, 2) := by decide +kernel
theorem dX6_burn_56 : decode cX6_burn 56 = .ok (.invokevirtual 81, 3) := by decide +kernel
theorem dX6_burn_59 : decode cX6_burn 59 = .ok (.ifCond .ne 5, 3) := by decide +kernel
theorem dX6_burn_62 : decode cX6_burn 62 = .ok (.iconst 0, 1) := by decide +kernel
theorem dX6_burn_63 : decode cX6_burn 63 = .ok (.ireturn, 1) := by decide +kernel
theorem dX6_burn_64 : decode cX6_burn 64 = .ok (.iload_n 3, 1) := by decide +kernel
theorem dX6_burn_65 : decode cX6_burn 65 = .ok (.istore 5, 2) := by decide +kernel
theorem dX6_burn_67 : decode cX6_burn 67 = .ok (.iconst 0, 1) := by decide +kernel
theorem dX6_burn_68 : decode cX6_burn 68 = .ok (.istore 6, 2) := by decide +kernel
theorem dX6_burn_70 : decode cX6_burn 70 = .ok (.iload 6, 2) := by decide +kernel
theorem dX6_burn_72 : decode cX6_burn 72 = .ok (.aload_n 0, 1) := by decide +kernel
theorem dX6_burn_73 : decode cX6_burn 73 = .ok (.getfield 122, 3) := by decide +kernel
theorem dX6_burn_76 : decode cX6_burn 76 = .ok (.if_icmp .ge 105, 3) := by decide +kernel
theorem dX6_burn_79 : decode cX6_burn 79 = .ok (.aload_n 0, 1) := by decide +kernel
theorem dX6_burn_80 : decode cX6_burn 80 = .ok (.getfield 56, 3) := by decide +kernel
theorem dX6_burn_83 : decode cX6_burn 83 = .ok (.iload 6, 2) := by decide +kernel
theorem dX6_burn_85 : decode cX6_burn 85 = .ok (.iaload, 1) := by decide +kernel
theorem dX6_burn_86 : decode cX6_burn 86 = .ok (.iload_n 1, 1) := by decide +kernel
theorem dX6_burn_87 : decode cX6_burn 87 = .ok (.if_icmp .eq 7, 3) := by decide +kernel
theorem dX6_burn_90 : decode cX6_burn 90 = .ok (.iconst 0, 1) := by decide +kernel
theorem dX6_burn_91 : decode cX6_burn 91 = .ok (.goto 27, 3) := by decide +kernel
theorem dX6_burn_94 : decode cX6_burn 94 = .ok (.aload_n 0, 1) := by decide +kernel
theorem dX6_burn_95 : decode cX6_burn 95 = .ok (.getfield 62, 3) := by decide +kernel
theorem dX6_burn_98 : decode cX6_burn 98 = .ok (.iload 6, 2) := by decide +kernel
theorem dX6_burn_100 : decode cX6_burn 100 = .ok (.iaload, 1) := by decide +kernel
theorem dX6_burn_101 : decode cX6_burn 101 = .ok (.iload 5, 2) := by decide +kernel
theorem dX6_burn_103 : decode cX6_burn 103 = .ok (.if_icmp .ge 13, 3) := by decide +kernel
theorem dX6_burn_106 : decode cX6_burn 106 = .ok (.aload_n 0, 1) := by decide +kernel
theorem dX6_burn_107 : decode cX6_burn 107 = .ok (.getfield 62, 3) := by decide +kernel
theorem dX6_burn_110 : decode cX6_burn 110 = .ok (.iload 6, 2) := by decide +kernel
theorem dX6_burn_112 : decode cX6_burn 112 = .ok (.iaload, 1) := by decide +kernel
theorem dX6_burn_113 : decode cX6_burn 113 = .ok (.goto 5, 3) := by decide +kernel
theorem dX6_burn_116 : decode cX6_burn 116 = .ok (.iload 5, 2) := by decide +kernel
theorem dX6_burn_118 : decode cX6_burn 118 = .ok (.istore 7, 2) := by decide +kernel
theorem dX6_burn_120 : decode cX6_burn 120 = .ok (.aload_n 0, 1) := by decide +kernel
theorem dX6_burn_121 : decode cX6_burn 121 = .ok (.getfield 62, 3) := by decide +kernel
theorem dX6_burn_124 : decode cX6_burn 124 = .ok (.iload 6, 2) := by decide +kernel
theorem dX6_burn_126 : decode cX6_burn 126 = .ok (.dup2, 1) := by decide +kernel
theorem dX6_burn_127 : decode cX6_burn 127 = .ok (.iaload, 1) := by decide +kernel
theorem dX6_burn_128 : decode cX6_burn 128 = .ok (.iload 7, 2) := by decide +kernel
theorem dX6_burn_130 : decode cX6_burn 130 = .ok (.isub, 1) := by decide +kernel
theorem dX6_burn_131 : decode cX6_burn 131 = .ok (.iastore, 1) := by decide +kernel
theorem dX6_burn_132 : decode cX6_burn 132 = .ok (.iload 5, 2) := by decide +kernel
theorem dX6_burn_134 : decode cX6_burn 134 = .ok (.iload 7, 2) := by decide +kernel
theorem dX6_burn_136 : decode cX6_burn 136 = .ok (.isub, 1) := by decide +kernel
theorem dX6_burn_137 : decode cX6_burn 137 = .ok (.istore 5, 2) := by decide +kernel
theorem dX6_burn_139 : decode cX6_burn 139 = .ok (.aload_n 0, 1) := by decide +kernel
theorem dX6_burn_140 : decode cX6_burn 140 = .ok (.getfield 28, 3) := by decide +kernel
theorem dX6_burn_143 : decode cX6_burn 143 = .ok (.iconst 4, 1) := by decide +kernel
theorem dX6_burn_144 : decode cX6_burn 144 = .ok (.aload_n 0, 1) := by decide +kernel
theorem dX6_burn_145 : decode cX6_burn 145 = .ok (.getfield 59, 3) := by decide +kernel
theorem dX6_burn_148 : decode cX6_burn 148 = .ok (.iload 6, 2) := by decide +kernel
theorem dX6_burn_150 : decode cX6_burn 150 = .ok (.iaload, 1) := by decide +kernel
theorem dX6_burn_151 : decode cX6_burn 151 = .ok (.imul, 1) := by decide +kernel
theorem dX6_burn_152 : decode cX6_burn 152 = .ok (.iload_n 2, 1) := by decide +kernel
theorem dX6_burn_153 : decode cX6_burn 153 = .ok (.iadd, 1) := by decide +kernel
theorem dX6_burn_154 : decode cX6_burn 154 = .ok (.dup2, 1) := by decide +kernel
theorem dX6_burn_155 : decode cX6_burn 155 = .ok (.iaload, 1) := by decide +kernel
theorem dX6_burn_156 : decode cX6_burn 156 = .ok (.aload_n 0, 1) := by decide +kernel
theorem dX6_burn_157 : decode cX6_burn 157 = .ok (.getfield 59, 3) := by decide +kernel
theorem dX6_burn_160 : decode cX6_burn 160 = .ok (.iload 6, 2) := by decide +kernel
theorem dX6_burn_162 : decode cX6_burn 162 = .ok (.iaload, 1) := by decide +kernel
theorem dX6_burn_163 : decode cX6_burn 163 = .ok (.iload_n 2, 1) := by decide +kernel
theorem dX6_burn_164 : decode cX6_burn 164 = .ok (.if_icmp .ne 7, 3) := by decide +kernel
theorem dX6_burn_167 : decode cX6_burn 167 = .ok (.iconst 0, 1) := by decide +kernel
theorem dX6_burn_168 : decode cX6_burn 168 = .ok (.goto 5, 3) := by decide +kernel
theorem dX6_burn_171 : decode cX6_burn 171 = .ok (.iload 7, 2) := by decide +kernel
theorem dX6_burn_173 : decode cX6_burn 173 = .ok (.iadd, 1) := by decide +kernel
theorem dX6_burn_174 : decode cX6_burn 174 = .ok (.iastore, 1) := by decide +kernel
theorem dX6_burn_175 : decode cX6_burn 175 = .ok (.iinc 6 1, 3) := by decide +kernel
theorem dX6_burn_178 : decode cX6_burn 178 = .ok (.goto (-108), 3) := by decide +kernel
theorem dX6_burn_181 : decode cX6_burn 181 = .ok (.aload_n 0, 1) := by decide +kernel
theorem dX6_burn_182 : decode cX6_burn 182 = .ok (.iload_n 1, 1) := by decide +kernel
theorem dX6_burn_183 : decode cX6_burn 183 = .ok (.invokevirtual 125, 3) := by decide +kernel
theorem dX6_burn_186 : decode cX6_burn 186 = .ok (.ireturn, 1) := by decide +kernel
set_option maxRecDepth 20000 in
theorem ggX6_night_X6_isFine : GoodIn wsX6_night wsX6_isFine := goodIn_r _ [17, 18, 19, 20, 21, 22, 23, 24, 25, 26, 27, 28, 29, 30, 31, 32, 33, 34, 35, 36, 37, 38, 39, 40, 41, 42] (by decide +kernel) (by decide +kernel)
set_option maxRecDepth 20000 in
theorem gX6_night_X6_isFine : GoodIn wsX6_night (wsV RX6 81 RX6 yX6_isFine wsX6_isFine) := goodIn_app (goodIn_of _ (by decide +kernel)) ggX6_night_X6_isFine
theorem dX6_night_0 : decode cX6_night 0 = .ok (.aload_n 0, 1) := by decide +kernel
theorem dX6_night_1 : decode cX6_night 1 = .ok (.aload_n 0, 1) := by decide +kernel
theorem dX6_night_2 : decode cX6_night 2 = .ok (.getfield 88, 3) := by decide +kernel
theorem dX6_night_5 : decode cX6_night 5 = .ok (.sipush 300, 3) := by decide +kernel
theorem dX6_night_8 : decode cX6_night 8 = .ok (.if_icmp .ne 7, 3) := by decide +kernel
theorem dX6_night_11 : decode cX6_night 11 = .ok (.iconst 1, 1) := by decide +kernel
theorem dX6_night_12 : decode cX6_night 12 = .ok (.goto 4, 3) := by decide +kernel
theorem dX6_night_15 : decode cX6_night 15 = .ok (.iconst 0, 1) := by decide +kernel
theorem dX6_night_16 : decode cX6_night 16 = .ok (.invokevirtual 81, 3) := by decide +kernel
theorem dX6_night_19 : decode cX6_night 19 = .ok (.ifCond .ne 5, 3) := by decide +kernel
theorem dX6_night_22 : decode cX6_night 22 = .ok (.iconst 0, 1) := by decide +kernel
theorem dX6_night_23 : decode cX6_night 23 = .ok (.ireturn, 1) := by decide +kernel
theorem dX6_night_24 : decode cX6_night 24 = .ok (.iconst 0, 1) := by decide +kernel
theorem dX6_night_25 : decode cX6_night 25 = .ok (.istore_n 1, 1) := by decide +kernel
theorem dX6_night_26 : decode cX6_night 26 = .ok (.iconst 0, 1) := by decide +kernel
theorem dX6_night_27 : decode cX6_night 27 = .ok (.istore_n 2, 1) := by decide +kernel
theorem dX6_night_28 : decode cX6_night 28 = .ok (.iload_n 2, 1) := by decide +kernel
theorem dX6_night_29 : decode cX6_night 29 = .ok (.aload_n 0, 1) := by decide +kernel
theorem dX6_night_30 : decode cX6_night 30 = .ok (.getfield 94, 3) := by decide +kernel
theorem dX6_night_33 : decode cX6_night 33 = .ok (.if_icmp .ge 79, 3) := by decide +kernel
theorem dX6_night_36 : decode cX6_night 36 = .ok (.aload_n 0, 1) := by decide +kernel
theorem dX6_night_37 : decode cX6_night 37 = .ok (.getfield 46, 3) := by decide +kernel
theorem dX6_night_40 : decode cX6_night 40 = .ok (.iload_n 2, 1) := by decide +kernel
theorem dX6_night_41 : decode cX6_night 41 = .ok (.iaload, 1) := by decide +kernel
theorem dX6_night_42 : decode cX6_night 42 = .ok (.aload_n 0, 1) := by decide +kernel
theorem dX6_night_43 : decode cX6_night 43 = .ok (.getfield 88, 3) := by decide +kernel
theorem dX6_night_46 : decode cX6_night 46 = .ok (.if_icmp .ne 16, 3) := by decide +kernel
theorem dX6_night_49 : decode cX6_night 49 = .ok (.aload_n 0, 1) := by decide +kernel
theorem dX6_night_50 : decode cX6_night 50 = .ok (.getfield 49, 3) := by decide +kernel
theorem dX6_night_53 : decode cX6_night 53 = .ok (.iload_n 2, 1) := by decide +kernel
theorem dX6_night_54 : decode cX6_night 54 = .ok (.baload, 1) := by decide +kernel
theorem dX6_night_55 : decode cX6_night 55 = .ok (.ifCond .ne 7, 3) := by decide +kernel
theorem dX6_night_58 : decode cX6_night 58 = .ok (.iconst 1, 1) := by decide +kernel
theorem dX6_night_59 : decode cX6_night 59 = .ok (.goto 4, 3) := by decide +kernel
theorem dX6_night_62 : decode cX6_night 62 = .ok (.iconst 0, 1) := by decide +kernel
theorem dX6_night_63 : decode cX6_night 63 = .ok (.istore_n 3, 1) := by decide +kernel
theorem dX6_night_64 : decode cX6_night 64 = .ok (.aload_n 0, 1) := by decide +kernel
theorem dX6_night_65 : decode cX6_night 65 = .ok (.getfield 34, 3) := by decide +kernel
theorem dX6_night_68 : decode cX6_night 68 = .ok (.iconst 4, 1) := by decide +kernel
theorem dX6_night_69 : decode cX6_night 69 = .ok (.aload_n 0, 1) := by decide +kernel
theorem dX6_night_70 : decode cX6_night 70 = .ok (.getfield 88, 3) := by decide +kernel
theorem dX6_night_73 : decode cX6_night 73 = .ok (.imul, 1) := by decide +kernel
theorem dX6_night_74 : decode cX6_night 74 = .ok (.aload_n 0, 1) := by decide +kernel
theorem dX6_night_75 : decode cX6_night 75 = .ok (.getfield 40, 3) := by decide +kernel
theorem dX6_night_78 : decode cX6_night 78 = .ok (.iload_n 2, 1) := by decide +kernel
theorem dX6_night_79 : decode cX6_night 79 = .ok (.iaload, 1) := by decide +kernel
theorem dX6_night_80 : decode cX6_night 80 = .ok (.iadd, 1) := by decide +kernel
theorem dX6_night_81 : decode cX6_night 81 = .ok (.dup2, 1) := by decide +kernel
theorem dX6_night_82 : decode cX6_night 82 = .ok (.iaload, 1) := by decide +kernel
theorem dX6_night_83 : decode cX6_night 83 = .ok (.iload_n 3, 1) := by decide +kernel
theorem dX6_night_84 : decode cX6_night 84 = .ok (.ifCond .eq 7, 3) := by decide +kernel
theorem dX6_night_87 : decode cX6_night 87 = .ok (.iconst 1, 1) := by decide +kernel
theorem dX6_night_88 : decode cX6_night 88 = .ok (.goto 4, 3) := by decide +kernel
theorem dX6_night_91 : decode cX6_night 91 = .ok (.iconst 0, 1) := by decide +kernel
theorem dX6_night_92 : decode cX6_night 92 = .ok (.iadd, 1) := by decide +kernel
theorem dX6_night_93 : decode cX6_night 93 = .ok (.iastore, 1) := by decide +kernel
theorem dX6_night_94 : decode cX6_night 94 = .ok (.iload_n 1, 1) := by decide +kernel
theorem dX6_night_95 : decode cX6_night 95 = .ok (.iload_n 3, 1) := by decide +kernel
theorem dX6_night_96 : decode cX6_night 96 = .ok (.ifCond .eq 7, 3) := by decide +kernel
theorem dX6_night_99 : decode cX6_night 99 = .ok (.iconst 1, 1) := by decide +kernel
theorem dX6_night_100 : decode cX6_night 100 = .ok (.goto 4, 3) := by decide +kernel
theorem dX6_night_103 : decode cX6_night 103 = .ok (.iconst 0, 1) := by decide +kernel
theorem dX6_night_104 : decode cX6_night 104 = .ok (.iadd, 1) := by decide +kernel
theorem dX6_night_105 : decode cX6_night 105 = .ok (.istore_n 1, 1) := by decide +kernel
theorem dX6_night_106 : decode cX6_night 106 = .ok (.iinc 2 1, 3) := by decide +kernel
theorem dX6_night_109 : decode cX6_night 109 = .ok (.goto (-81), 3) := by decide +kernel
theorem dX6_night_112 : decode cX6_night 112 = .ok (.iconst 0, 1) := by decide +kernel
theorem dX6_night_113 : decode cX6_night 113 = .ok (.istore_n 2, 1) := by decide +kernel
theorem dX6_night_114 : decode cX6_night 114 = .ok (.iload_n 2, 1) := by decide +kernel
theorem dX6_night_115 : decode cX6_night 115 = .ok (.iconst 4, 1) := by decide +kernel
theorem dX6_night_116 : decode cX6_night 116 = .ok (.if_icmp .ge 90, 3) := by decide +kernel
theorem dX6_night_119 : decode cX6_night 119 = .ok (.aload_n 0, 1) := by decide +kernel
theorem dX6_night_120 : decode cX6_night 120 = .ok (.getfield 31, 3) := by decide +kernel
theorem dX6_night_123 : decode cX6_night 123 = .ok (.iconst 4, 1) := by decide +kernel
theorem dX6_night_124 : decode cX6_night 124 = .ok (.aload_n 0, 1) := by decide +kernel
theorem dX6_night_125 : decode cX6_night 125 = .ok (.getfield 88, 3) := by decide +kernel
theorem dX6_night_128 : decode cX6_night 128 = .ok (.imul, 1) := by decide +kernel
theorem dX6_night_129 : decode cX6_night 129 = .ok (.iload_n 2, 1) := by decide +kernel
theorem dX6_night_130 : decode cX6_night 130 = .ok (.iadd, 1) := by decide +kernel
theorem dX6_night_131 : decode cX6_night 131 = .ok (.aload_n 0, 1) := by decide +kernel
theorem dX6_night_132 : decode cX6_night 132 = .ok (.getfield 22, 3) := by decide +kernel
theorem dX6_night_135 : decode cX6_night 135 = .ok (.iload_n 2, 1) := by decide +kernel
theorem dX6_night_136 : decode cX6_night 136 = .ok (.iaload, 1) := by decide +kernel
theorem dX6_night_137 : decode cX6_night 137 = .ok (.iastore, 1) := by decide +kernel
theorem dX6_night_138 : decode cX6_night 138 = .ok (.aload_n 0, 1) := by decide +kernel
theorem dX6_night_139 : decode cX6_night 139 = .ok (.getfield 22, 3) := by decide +kernel
theorem dX6_night_142 : decode cX6_night 142 = .ok (.iload_n 2, 1) := by decide +kernel
theorem dX6_night_143 : decode cX6_night 143 = .ok (.iconst 0, 1) := by decide +kernel
theorem dX6_night_144 : decode cX6_night 144 = .ok (.iastore, 1) := by decide +kernel
theorem dX6_night_145 : decode cX6_night 145 = .ok (.iconst 0, 1) := by decide +kernel
theorem dX6_night_146 : decode cX6_night 146 = .ok (.istore_n 3, 1) := by decide +kernel
theorem dX6_night_147 : decode cX6_night 147 = .ok (.iload_n 3, 1) := by decide +kernel
theorem dX6_night_148 : decode cX6_night 148 = .ok (.aload_n 0, 1) := by decide +kernel
theorem dX6_night_149 : decode cX6_night 149 = .ok (.getfield 88, 3) := by decide +kernel
theorem dX6_night_152 : decode cX6_night 152 = .ok (.iconst 2, 1) := by decide +kernel
theorem dX6_night_153 : decode cX6_night 153 = .ok (.isub, 1) := by decide +kernel
theorem dX6_night_154 : decode cX6_night 154 = .ok (.if_icmp .gt 46, 3) := by decide +kernel
theorem dX6_night_157 : decode cX6_night 157 = .ok (.aload_n 0, 1) := by decide +kernel
theorem dX6_night_158 : decode cX6_night 158 = .ok (.getfield 84, 3) := by decide +kernel
theorem dX6_night_161 : decode cX6_night 161 = .ok (.ifCond .ne 39, 3) := by decide +kernel
theorem dX6_night_164 : decode cX6_night 164 = .ok (.aload_n 0, 1) := by decide +kernel
theorem dX6_night_165 : decode cX6_night 165 = .ok (.getfield 19, 3) := by decide +kernel
theorem dX6_night_168 : decode cX6_night 168 = .ok (.iload_n 2, 1) := by decide +kernel
theorem dX6_night_169 : decode cX6_night 169 = .ok (.dup2, 1) := by decide +kernel
theorem dX6_night_170 : decode cX6_night 170 = .ok (.iaload, 1) := by decide +kernel
theorem dX6_night_171 : decode cX6_night 171 = .ok (.aload_n 0, 1) := by decide +kernel
theorem dX6_night_172 : decode cX6_night 172 = .ok (.getfield 31, 3) := by decide +kernel
theorem dX6_night_175 : decode cX6_night 175 = .ok (.iconst 4, 1) := by decide +kernel
theorem dX6_night_176 : decode cX6_night 176 = .ok (.iload_n 3, 1) := by decide +kernel
theorem dX6_night_177 : decode cX6_night 177 = .ok (.imul, 1) := by decide +kernel
theorem dX6_night_178 : decode cX6_night 178 = .ok (.iload_n 2, 1) := by decide +kernel
theorem dX6_night_179 : decode cX6_night 179 = .ok (.iadd, 1) := by decide +kernel
theorem dX6_night_180 : decode cX6_night 180 = .ok (.iaload, 1) := by decide +kernel
theorem dX6_night_181 : decode cX6_night 181 = .ok (.iadd, 1) := by decide +kernel
theorem dX6_night_182 : decode cX6_night 182 = .ok (.iastore, 1) := by decide +kernel
theorem dX6_night_183 : decode cX6_night 183 = .ok (.aload_n 0, 1) := by decide +kernel
theorem dX6_night_184 : decode cX6_night 184 = .ok (.getfield 31, 3) := by decide +kernel
theorem dX6_night_187 : decode cX6_night 187 = .ok (.iconst 4, 1) := by decide +kernel
theorem dX6_night_188 : decode cX6_night 188 = .ok (.iload_n 3, 1) := by decide +kernel
theorem dX6_night_189 : decode cX6_night 189 = .ok (.imul, 1) := by decide +kernel
theorem dX6_night_190 : decode cX6_night 190 = .ok (.iload_n 2, 1) := by decide +kernel
theorem dX6_night_191 : decode cX6_night 191 = .ok (.iadd, 1) := by decide +kernel
theorem dX6_night_192 : decode cX6_night 192 = .ok (.iconst 0, 1) := by decide +kernel
theorem dX6_night_193 : decode cX6_night 193 = .ok (.iastore, 1) := by decide +kernel
theorem dX6_night_194 : decode cX6_night 194 = .ok (.iinc 3 1, 3) := by decide +kernel
theorem dX6_night_197 : decode cX6_night 197 = .ok (.goto (-50), 3) := by decide +kernel
theorem dX6_night_200 : decode cX6_night 200 = .ok (.iinc 2 1, 3) := by decide +kernel
theorem dX6_night_203 : decode cX6_night 203 = .ok (.goto (-89), 3) := by decide +kernel
theorem dX6_night_206 : decode cX6_night 206 = .ok (.iconst 0, 1) := by decide +kernel
theorem dX6_night_207 : decode cX6_night 207 = .ok (.istore_n 2, 1) := by decide +kernel
theorem dX6_night_208 : decode cX6_night 208 = .ok (.iload_n 2, 1) := by decide +kernel
theorem dX6_night_209 : decode cX6_night 209 = .ok (.bipush 8, 2) := by decide +kernel
theorem dX6_night_211 : decode cX6_night 211 = .ok (.if_icmp .ge 16, 3) := by decide +kernel
theorem dX6_night_214 : decode cX6_night 214 = .ok (.aload_n 0, 1) := by decide +kernel
theorem dX6_night_215 : decode cX6_night 215 = .ok (.getfield 16, 3) := by decide +kernel
theorem dX6_night_218 : decode cX6_night 218 = .ok (.iload_n 2, 1) := by decide +kernel
theorem dX6_night_219 : decode cX6_night 219 = .ok (.iconst 0, 1) := by decide +kernel
theorem dX6_night_220 : decode cX6_night 220 = .ok (.iastore, 1) := by decide +kernel
theorem dX6_night_221 : decode cX6_night 221 = .ok (.iinc 2 1, 3) := by decide +kernel
theorem dX6_night_224 : decode cX6_night 224 = .ok (.goto (-16), 3) := by decide +kernel
theorem dX6_night_227 : decode cX6_night 227 = .ok (.aload_n 0, 1) := by decide +kernel
theorem dX6_night_228 : decode cX6_night 228 = .ok (.iconst 0, 1) := by decide +kernel
theorem dX6_night_229 : decode cX6_night 229 = .ok (.putfield 112, 3) := by decide +kernel
theorem dX6_night_232 : decode cX6_night 232 = .ok (.aload_n 0, 1) := by decide +kernel
theorem dX6_night_233 : decode cX6_night 233 = .ok (.dup, 1) := by decide +kernel
theorem dX6_night_234 : decode cX6_night 234 = .ok (.getfield 88, 3) := by decide +kernel
theorem dX6_night_237 : decode cX6_night 237 = .ok (.iconst 1, 1) := by decide +kernel
theorem dX6_night_238 : decode cX6_night 238 = .ok (.iadd, 1) := by decide +kernel
theorem dX6_night_239 : decode cX6_night 239 = .ok (.putfield 88, 3) := by decide +kernel
theorem dX6_night_242 : decode cX6_night 242 = .ok (.iload_n 1, 1) := by decide +kernel
theorem dX6_night_243 : decode cX6_night 243 = .ok (.ireturn, 1) := by decide +kernel
theorem dX6_owed_0 : decode cX6_owed 0 = .ok (.aload_n 0, 1) := by decide +kernel
theorem dX6_owed_1 : decode cX6_owed 1 = .ok (.getfield 28, 3) := by decide +kernel
theorem dX6_owed_4 : decode cX6_owed 4 = .ok (.iconst 4, 1) := by decide +kernel
theorem dX6_owed_5 : decode cX6_owed 5 = .ok (.iload_n 1, 1) := by decide +kernel
theorem dX6_owed_6 : decode cX6_owed 6 = .ok (.imul, 1) := by decide +kernel
theorem dX6_owed_7 : decode cX6_owed 7 = .ok (.iload_n 2, 1) := by decide +kernel
theorem dX6_owed_8 : decode cX6_owed 8 = .ok (.iadd, 1) := by decide +kernel
theorem dX6_owed_9 : decode cX6_owed 9 = .ok (.iaload, 1) := by decide +kernel
theorem dX6_owed_10 : decode cX6_owed 10 = .ok (.aload_n 0, 1) := by decide +kernel
theorem dX6_owed_11 : decode cX6_owed 11 = .ok (.getfield 28, 3) := by decide +kernel
theorem dX6_owed_14 : decode cX6_owed 14 = .ok (.iconst 4, 1) := by decide +kernel
theorem dX6_owed_15 : decode cX6_owed 15 = .ok (.iload_n 2, 1) := by decide +kernel
theorem dX6_owed_16 : decode cX6_owed 16 = .ok (.imul, 1) := by decide +kernel
theorem dX6_owed_17 : decode cX6_owed 17 = .ok (.iload_n 1, 1) := by decide +kernel
theorem dX6_owed_18 : decode cX6_owed 18 = .ok (.iadd, 1) := by decide +kernel
theorem dX6_owed_19 : decode cX6_owed 19 = .ok (.iaload, 1) := by decide +kernel
theorem dX6_owed_20 : decode cX6_owed 20 = .ok (.isub, 1) := by decide +kernel
theorem dX6_owed_21 : decode cX6_owed 21 = .ok (.istore_n 3, 1) := by decide +kernel
theorem dX6_owed_22 : decode cX6_owed 22 = .ok (.iload_n 3, 1) := by decide +kernel
theorem dX6_owed_23 : decode cX6_owed 23 = .ok (.ifCond .le 7, 3) := by decide +kernel
theorem dX6_owed_26 : decode cX6_owed 26 = .ok (.iload_n 3, 1) := by decide +kernel
theorem dX6_owed_27 : decode cX6_owed 27 = .ok (.goto 4, 3) := by decide +kernel
theorem dX6_owed_30 : decode cX6_owed 30 = .ok (.iconst 0, 1) := by decide +kernel
theorem dX6_owed_31 : decode cX6_owed 31 = .ok (.ireturn, 1) := by decide +kernel
set_option maxRecDepth 20000 in
theorem ggX6_settle_X6_owed : GoodIn wsX6_settle wsX6_owed := goodIn_r _ [8, 3, 9, 10, 11, 12, 13, 14, 15, 16, 17, 18, 19, 20, 21, 22, 23, 24, 25, 26, 27, 28, 29, 30, 31, 32] (by decide +kernel) (by decide +kernel)
set_option maxRecDepth 20000 in
theorem gX6_settle_X6_owed : GoodIn wsX6_settle (wsV RX6 128 RX6 yX6_owed wsX6_owed) := goodIn_app (goodIn_of _ (by decide +kernel)) ggX6_settle_X6_owed
theorem dX6_settle_0 : decode cX6_settle 0 = .ok (.aload_n 0, 1) := by decide +kernel
theorem dX6_settle_1 : decode cX6_settle 1 = .ok (.iconst 0, 1) := by decide +kernel
theorem dX6_settle_2 : decode cX6_settle 2 = .ok (.putfield 65, 3) := by decide +kernel
theorem dX6_settle_5 : decode cX6_settle 5 = .ok (.iconst 0, 1) := by decide +kernel
theorem dX6_settle_6 : decode cX6_settle 6 = .ok (.istore_n 1, 1) := by decide +kernel
theorem dX6_settle_7 : decode cX6_settle 7 = .ok (.iconst 0, 1) := by decide +kernel
theorem dX6_settle_8 : decode cX6_settle 8 = .ok (.istore_n 2, 1) := by decide +kernel
theorem dX6_settle_9 : decode cX6_settle 9 = .ok (.iload_n 2, 1) := by decide +kernel
theorem dX6_settle_10 : decode cX6_settle 10 = .ok (.bipush 16, 2) := by decide +kernel
theorem dX6_settle_12 : decode cX6_settle 12 = .ok (.if_icmp .ge 48, 3) := by decide +kernel
theorem dX6_settle_15 : decode cX6_settle 15 = .ok (.aload_n 0, 1) := by decide +kernel
theorem dX6_settle_16 : decode cX6_settle 16 = .ok (.iload_n 2, 1) := by decide +kernel
theorem dX6_settle_17 : decode cX6_settle 17 = .ok (.iconst 4, 1) := by decide +kernel
theorem dX6_settle_18 : decode cX6_settle 18 = .ok (.idiv, 1) := by decide +kernel
theorem dX6_settle_19 : decode cX6_settle 19 = .ok (.iload_n 2, 1) := by decide +kernel
theorem dX6_settle_20 : decode cX6_settle 20 = .ok (.iconst 4, 1) := by decide +kernel
theorem dX6_settle_21 : decode cX6_settle 21 = .ok (.irem, 1) := by decide +kernel
theorem dX6_settle_22 : decode cX6_settle 22 = .ok (.invokevirtual 128, 3) := by decide +kernel
theorem dX6_settle_25 : decode cX6_settle 25 = .ok (.istore_n 3, 1) := by decide +kernel
theorem dX6_settle_26 : decode cX6_settle 26 = .ok (.aload_n 0, 1) := by decide +kernel
theorem dX6_settle_27 : decode cX6_settle 27 = .ok (.getfield 25, 3) := by decide +kernel
theorem dX6_settle_30 : decode cX6_settle 30 = .ok (.iload_n 2, 1) := by decide +kernel
theorem dX6_settle_31 : decode cX6_settle 31 = .ok (.iconst 4, 1) := by decide +kernel
theorem dX6_settle_32 : decode cX6_settle 32 = .ok (.idiv, 1) := by decide +kernel
theorem dX6_settle_33 : decode cX6_settle 33 = .ok (.dup2, 1) := by decide +kernel
theorem dX6_settle_34 : decode cX6_settle 34 = .ok (.iaload, 1) := by decide +kernel
theorem dX6_settle_35 : decode cX6_settle 35 = .ok (.iload_n 3, 1) := by decide +kernel
theorem dX6_settle_36 : decode cX6_settle 36 = .ok (.isub, 1) := by decide +kernel
theorem dX6_settle_37 : decode cX6_settle 37 = .ok (.iastore, 1) := by decide +kernel
theorem dX6_settle_38 : decode cX6_settle 38 = .ok (.aload_n 0, 1) := by decide +kernel
theorem dX6_settle_39 : decode cX6_settle 39 = .ok (.getfield 25, 3) := by decide +kernel
theorem dX6_settle_42 : decode cX6_settle 42 = .ok (.iload_n 2, 1) := by decide +kernel
theorem dX6_settle_43 : decode cX6_settle 43 = .ok (.iconst 4, 1) := by decide +kernel
theorem dX6_settle_44 : decode cX6_settle 44 = .ok (.irem, 1) := by decide +kernel
theorem dX6_settle_45 : decode cX6_settle 45 = .ok (.dup2, 1) := by decide +kernel
theorem dX6_settle_46 : decode cX6_settle 46 = .ok (.iaload, 1) := by decide +kernel
theorem dX6_settle_47 : decode cX6_settle 47 = .ok (.iload_n 3, 1) := by decide +kernel
theorem dX6_settle_48 : decode cX6_settle 48 = .ok (.iadd, 1) := by decide +kernel
theorem dX6_settle_49 : decode cX6_settle 49 = .ok (.iastore, 1) := by decide +kernel
theorem dX6_settle_50 : decode cX6_settle 50 = .ok (.iload_n 1, 1) := by decide +kernel
theorem dX6_settle_51 : decode cX6_settle 51 = .ok (.iload_n 3, 1) := by decide +kernel
theorem dX6_settle_52 : decode cX6_settle 52 = .ok (.iadd, 1) := by decide +kernel
theorem dX6_settle_53 : decode cX6_settle 53 = .ok (.istore_n 1, 1) := by decide +kernel
theorem dX6_settle_54 : decode cX6_settle 54 = .ok (.iinc 2 1, 3) := by decide +kernel
theorem dX6_settle_57 : decode cX6_settle 57 = .ok (.goto (-48), 3) := by decide +kernel
theorem dX6_settle_60 : decode cX6_settle 60 = .ok (.iconst 0, 1) := by decide +kernel
theorem dX6_settle_61 : decode cX6_settle 61 = .ok (.istore_n 2, 1) := by decide +kernel
theorem dX6_settle_62 : decode cX6_settle 62 = .ok (.iload_n 2, 1) := by decide +kernel
theorem dX6_settle_63 : decode cX6_settle 63 = .ok (.bipush 16, 2) := by decide +kernel
theorem dX6_settle_65 : decode cX6_settle 65 = .ok (.if_icmp .ge 16, 3) := by decide +kernel
theorem dX6_settle_68 : decode cX6_settle 68 = .ok (.aload_n 0, 1) := by decide +kernel
theorem dX6_settle_69 : decode cX6_settle 69 = .ok (.getfield 28, 3) := by decide +kernel
theorem dX6_settle_72 : decode cX6_settle 72 = .ok (.iload_n 2, 1) := by decide +kernel
theorem dX6_settle_73 : decode cX6_settle 73 = .ok (.iconst 0, 1) := by decide +kernel
theorem dX6_settle_74 : decode cX6_settle 74 = .ok (.iastore, 1) := by decide +kernel
theorem dX6_settle_75 : decode cX6_settle 75 = .ok (.iinc 2 1, 3) := by decide +kernel
theorem dX6_settle_78 : decode cX6_settle 78 = .ok (.goto (-16), 3) := by decide +kernel
theorem dX6_settle_81 : decode cX6_settle 81 = .ok (.iload_n 1, 1) := by decide +kernel
theorem dX6_settle_82 : decode cX6_settle 82 = .ok (.ireturn, 1) := by decide +kernel
theorem dX6_today_0 : decode cX6_today 0 = .ok (.aload_n 0, 1) := by decide +kernel
theorem dX6_today_1 : decode cX6_today 1 = .ok (.iconst 0, 1) := by decide +kernel
theorem dX6_today_2 : decode cX6_today 2 = .ok (.putfield 65, 3) := by decide +kernel
theorem dX6_today_5 : decode cX6_today 5 = .ok (.aload_n 0, 1) := by decide +kernel
theorem dX6_today_6 : decode cX6_today 6 = .ok (.getfield 88, 3) := by decide +kernel
theorem dX6_today_9 : decode cX6_today 9 = .ok (.ireturn, 1) := by decide +kernel
theorem dX6_bookings_0 : decode cX6_bookings 0 = .ok (.aload_n 0, 1) := by decide +kernel
theorem dX6_bookings_1 : decode cX6_bookings 1 = .ok (.iconst 0, 1) := by decide +kernel
theorem dX6_bookings_2 : decode cX6_bookings 2 = .ok (.putfield 65, 3) := by decide +kernel
theorem dX6_bookings_5 : decode cX6_bookings 5 = .ok (.aload_n 0, 1) := by decide +kernel
theorem dX6_bookings_6 : decode cX6_bookings 6 = .ok (.getfield 94, 3) := by decide +kernel
theorem dX6_bookings_9 : decode cX6_bookings 9 = .ok (.ireturn, 1) := by decide +kernel
set_option maxRecDepth 20000 in
theorem ggX6_free_X6_isRoom : GoodIn wsX6_free wsX6_isRoom := goodIn_r _ [6, 7, 8, 5, 9, 10, 11, 12] (by decide +kernel) (by decide +kernel)
set_option maxRecDepth 20000 in
theorem gX6_free_X6_isRoom : GoodIn wsX6_free (va_wsS RX6 77 yX6_isRoom wsX6_isRoom) := goodIn_app (goodIn_of _ (by decide +kernel)) ggX6_free_X6_isRoom
set_option maxRecDepth 20000 in
theorem ggX6_free_X6_isFine : GoodIn wsX6_free wsX6_isFine := goodIn_r _ [16, 17, 18, 19, 20, 21, 22, 23, 24, 25, 26, 27, 28, 29, 30, 31, 32, 33, 34, 35, 36, 37, 38, 39, 40, 41] (by decide +kernel) (by decide +kernel)
set_option maxRecDepth 20000 in
theorem gX6_free_X6_isFine : GoodIn wsX6_free (wsV RX6 81 RX6 yX6_isFine wsX6_isFine) := goodIn_app (goodIn_of _ (by decide +kernel)) ggX6_free_X6_isFine
theorem dX6_free_0 : decode cX6_free 0 = .ok (.aload_n 0, 1) := by decide +kernel
theorem dX6_free_1 : decode cX6_free 1 = .ok (.iload_n 1, 1) := by decide +kernel
theorem dX6_free_2 : decode cX6_free 2 = .ok (.iload_n 2, 1) := by decide +kernel
theorem dX6_free_3 : decode cX6_free 3 = .ok (.invokestatic 77, 3) := by decide +kernel
theorem dX6_free_6 : decode cX6_free 6 = .ok (.ifCond .eq 7, 3) := by decide +kernel
theorem dX6_free_9 : decode cX6_free 9 = .ok (.iconst 0, 1) := by decide +kernel
theorem dX6_free_10 : decode cX6_free 10 = .ok (.goto 4, 3) := by decide +kernel
theorem dX6_free_13 : decode cX6_free 13 = .ok (.iconst 1, 1) := by decide +kernel
theorem dX6_free_14 : decode cX6_free 14 = .ok (.invokevirtual 81, 3) := by decide +kernel
theorem dX6_free_17 : decode cX6_free 17 = .ok (.ifCond .ne 5, 3) := by decide +kernel
theorem dX6_free_20 : decode cX6_free 20 = .ok (.iconst 0, 1) := by decide +kernel
theorem dX6_free_21 : decode cX6_free 21 = .ok (.ireturn, 1) := by decide +kernel
theorem dX6_free_22 : decode cX6_free 22 = .ok (.aload_n 0, 1) := by decide +kernel
theorem dX6_free_23 : decode cX6_free 23 = .ok (.getfield 7, 3) := by decide +kernel
theorem dX6_free_26 : decode cX6_free 26 = .ok (.iconst 2, 1) := by decide +kernel
theorem dX6_free_27 : decode cX6_free 27 = .ok (.iload_n 1, 1) := by decide +kernel
theorem dX6_free_28 : decode cX6_free 28 = .ok (.imul, 1) := by decide +kernel
theorem dX6_free_29 : decode cX6_free 29 = .ok (.iload_n 2, 1) := by decide +kernel
theorem dX6_free_30 : decode cX6_free 30 = .ok (.iadd, 1) := by decide +kernel
theorem dX6_free_31 : decode cX6_free 31 = .ok (.iaload, 1) := by decide +kernel
theorem dX6_free_32 : decode cX6_free 32 = .ok (.aload_n 0, 1) := by decide +kernel
theorem dX6_free_33 : decode cX6_free 33 = .ok (.getfield 16, 3) := by decide +kernel
theorem dX6_free_36 : decode cX6_free 36 = .ok (.iconst 2, 1) := by decide +kernel
theorem dX6_free_37 : decode cX6_free 37 = .ok (.iload_n 1, 1) := by decide +kernel
theorem dX6_free_38 : decode cX6_free 38 = .ok (.imul, 1) := by decide +kernel
theorem dX6_free_39 : decode cX6_free 39 = .ok (.iload_n 2, 1) := by decide +kernel
theorem dX6_free_40 : decode cX6_free 40 = .ok (.iadd, 1) := by decide +kernel
theorem dX6_free_41 : decode cX6_free 41 = .ok (.iaload, 1) := by decide +kernel
theorem dX6_free_42 : decode cX6_free 42 = .ok (.isub, 1) := by decide +kernel
theorem dX6_free_43 : decode cX6_free 43 = .ok (.istore_n 3, 1) := by decide +kernel
theorem dX6_free_44 : decode cX6_free 44 = .ok (.iload_n 3, 1) := by decide +kernel
theorem dX6_free_45 : decode cX6_free 45 = .ok (.ifCond .le 7, 3) := by decide +kernel
theorem dX6_free_48 : decode cX6_free 48 = .ok (.iload_n 3, 1) := by decide +kernel
theorem dX6_free_49 : decode cX6_free 49 = .ok (.goto 4, 3) := by decide +kernel
theorem dX6_free_52 : decode cX6_free 52 = .ok (.iconst 0, 1) := by decide +kernel
theorem dX6_free_53 : decode cX6_free 53 = .ok (.ireturn, 1) := by decide +kernel
set_option maxRecDepth 20000 in
theorem ggX6_taken_X6_isRoom : GoodIn wsX6_taken wsX6_isRoom := goodIn_r _ [5, 6, 7, 4, 8, 9, 10, 11] (by decide +kernel) (by decide +kernel)
set_option maxRecDepth 20000 in
theorem gX6_taken_X6_isRoom : GoodIn wsX6_taken (va_wsS RX6 77 yX6_isRoom wsX6_isRoom) := goodIn_app (goodIn_of _ (by decide +kernel)) ggX6_taken_X6_isRoom
set_option maxRecDepth 20000 in
theorem ggX6_taken_X6_isFine : GoodIn wsX6_taken wsX6_isFine := goodIn_r _ [15, 16, 17, 18, 19, 20, 21, 22, 23, 24, 25, 26, 27, 28, 29, 30, 31, 32, 33, 34, 35, 36, 37, 38, 39, 40] (by decide +kernel) (by decide +kernel)
set_option maxRecDepth 20000 in
theorem gX6_taken_X6_isFine : GoodIn wsX6_taken (wsV RX6 81 RX6 yX6_isFine wsX6_isFine) := goodIn_app (goodIn_of _ (by decide +kernel)) ggX6_taken_X6_isFine
theorem dX6_taken_0 : decode cX6_taken 0 = .ok (.aload_n 0, 1) := by decide +kernel
theorem dX6_taken_1 : decode cX6_taken 1 = .ok (.iload_n 1, 1) := by decide +kernel
theorem dX6_taken_2 : decode cX6_taken 2 = .ok (.iload_n 2, 1) := by decide +kernel
theorem dX6_taken_3 : decode cX6_taken 3 = .ok (.invokestatic 77, 3) := by decide +kernel
theorem dX6_taken_6 : decode cX6_taken 6 = .ok (.ifCond .eq 7, 3) := by decide +kernel
theorem dX6_taken_9 : decode cX6_taken 9 = .ok (.iconst 0, 1) := by decide +kernel
theorem dX6_taken_10 : decode cX6_taken 10 = .ok (.goto 4, 3) := by decide +kernel
theorem dX6_taken_13 : decode cX6_taken 13 = .ok (.iconst 1, 1) := by decide +kernel
theorem dX6_taken_14 : decode cX6_taken 14 = .ok (.invokevirtual 81, 3) := by decide +kernel
theorem dX6_taken_17 : decode cX6_taken 17 = .ok (.ifCond .eq 16, 3) := by decide +kernel
theorem dX6_taken_20 : decode cX6_taken 20 = .ok (.aload_n 0, 1) := by decide +kernel
theorem dX6_taken_21 : decode cX6_taken 21 = .ok (.getfield 16, 3) := by decide +kernel
theorem dX6_taken_24 : decode cX6_taken 24 = .ok (.iconst 2, 1) := by decide +kernel
theorem dX6_taken_25 : decode cX6_taken 25 = .ok (.iload_n 1, 1) := by decide +kernel
theorem dX6_taken_26 : decode cX6_taken 26 = .ok (.imul, 1) := by decide +kernel
theorem dX6_taken_27 : decode cX6_taken 27 = .ok (.iload_n 2, 1) := by decide +kernel
theorem dX6_taken_28 : decode cX6_taken 28 = .ok (.iadd, 1) := by decide +kernel
theorem dX6_taken_29 : decode cX6_taken 29 = .ok (.iaload, 1) := by decide +kernel
theorem dX6_taken_30 : decode cX6_taken 30 = .ok (.goto 4, 3) := by decide +kernel
theorem dX6_taken_33 : decode cX6_taken 33 = .ok (.iconst 0, 1) := by decide +kernel
theorem dX6_taken_34 : decode cX6_taken 34 = .ok (.ireturn, 1) := by decide +kernel
set_option maxRecDepth 20000 in
theorem ggX6_takenByBookings_X6_isRoom : GoodIn wsX6_takenByBookings wsX6_isRoom := goodIn_r _ [9, 10, 11, 8, 12, 13, 14, 15] (by decide +kernel) (by decide +kernel)
set_option maxRecDepth 20000 in
theorem gX6_takenByBookings_X6_isRoom : GoodIn wsX6_takenByBookings (va_wsS RX6 77 yX6_isRoom wsX6_isRoom) := goodIn_app (goodIn_of _ (by decide +kernel)) ggX6_takenByBookings_X6_isRoom
set_option maxRecDepth 20000 in
theorem ggX6_takenByBookings_X6_isFine : GoodIn wsX6_takenByBookings wsX6_isFine := goodIn_r _ [19, 20, 21, 22, 23, 24, 25, 26, 27, 28, 29, 30, 31, 32, 33, 34, 35, 36, 37, 38, 39, 40, 41, 42, 43, 44] (by decide +kernel) (by decide +kernel)
set_option maxRecDepth 20000 in
theorem gX6_takenByBookings_X6_isFine : GoodIn wsX6_takenByBookings (wsV RX6 81 RX6 yX6_isFine wsX6_isFine) := goodIn_app (goodIn_of _ (by decide +kernel)) ggX6_takenByBookings_X6_isFine
theorem dX6_takenByBookings_0 : decode cX6_takenByBookings 0 = .ok (.iconst 0, 1) := by decide +kernel
theorem dX6_takenByBookings_1 : decode cX6_takenByBookings 1 = .ok (.istore_n 3, 1) := by decide +kernel
theorem dX6_takenByBookings_2 : decode cX6_takenByBookings 2 = .ok (.aload_n 0, 1) := by decide +kernel
theorem dX6_takenByBookings_3 : decode cX6_takenByBookings 3 = .ok (.iload_n 1, 1) := by decide +kernel
theorem dX6_takenByBookings_4 : decode cX6_takenByBookings 4 = .ok (.iload_n 2, 1) := by decide +kernel
theorem dX6_takenByBookings_5 : decode cX6_takenByBookings 5 = .ok (.invokestatic 77, 3) := by decide +kernel
theorem dX6_takenByBookings_8 : decode cX6_takenByBookings 8 = .ok (.ifCond .eq 7, 3) := by decide +kernel
theorem dX6_takenByBookings_11 : decode cX6_takenByBookings 11 = .ok (.iconst 0, 1) := by decide +kernel
theorem dX6_takenByBookings_12 : decode cX6_takenByBookings 12 = .ok (.goto 4, 3) := by decide +kernel
theorem dX6_takenByBookings_15 : decode cX6_takenByBookings 15 = .ok (.iconst 1, 1) := by decide +kernel
theorem dX6_takenByBookings_16 : decode cX6_takenByBookings 16 = .ok (.invokevirtual 81, 3) := by decide +kernel
theorem dX6_takenByBookings_19 : decode cX6_takenByBookings 19 = .ok (.ifCond .eq 65, 3) := by decide +kernel
theorem dX6_takenByBookings_22 : decode cX6_takenByBookings 22 = .ok (.iconst 0, 1) := by decide +kernel
theorem dX6_takenByBookings_23 : decode cX6_takenByBookings 23 = .ok (.istore 4, 2) := by decide +kernel
theorem dX6_takenByBookings_25 : decode cX6_takenByBookings 25 = .ok (.iload 4, 2) := by decide +kernel
theorem dX6_takenByBookings_27 : decode cX6_takenByBookings 27 = .ok (.aload_n 0, 1) := by decide +kernel
theorem dX6_takenByBookings_28 : decode cX6_takenByBookings 28 = .ok (.getfield 94, 3) := by decide +kernel
theorem dX6_takenByBookings_31 : decode cX6_takenByBookings 31 = .ok (.if_icmp .ge 53, 3) := by decide +kernel
theorem dX6_takenByBookings_34 : decode cX6_takenByBookings 34 = .ok (.iload_n 3, 1) := by decide +kernel
theorem dX6_takenByBookings_35 : decode cX6_takenByBookings 35 = .ok (.aload_n 0, 1) := by decide +kernel
theorem dX6_takenByBookings_36 : decode cX6_takenByBookings 36 = .ok (.getfield 46, 3) := by decide +kernel
theorem dX6_takenByBookings_39 : decode cX6_takenByBookings 39 = .ok (.iload 4, 2) := by decide +kernel
theorem dX6_takenByBookings_41 : decode cX6_takenByBookings 41 = .ok (.iaload, 1) := by decide +kernel
theorem dX6_takenByBookings_42 : decode cX6_takenByBookings 42 = .ok (.aload_n 0, 1) := by decide +kernel
theorem dX6_takenByBookings_43 : decode cX6_takenByBookings 43 = .ok (.getfield 88, 3) := by decide +kernel
theorem dX6_takenByBookings_46 : decode cX6_takenByBookings 46 = .ok (.if_icmp .ne 29, 3) := by decide +kernel
theorem dX6_takenByBookings_49 : decode cX6_takenByBookings 49 = .ok (.aload_n 0, 1) := by decide +kernel
theorem dX6_takenByBookings_50 : decode cX6_takenByBookings 50 = .ok (.getfield 53, 3) := by decide +kernel
theorem dX6_takenByBookings_53 : decode cX6_takenByBookings 53 = .ok (.iload 4, 2) := by decide +kernel
theorem dX6_takenByBookings_55 : decode cX6_takenByBookings 55 = .ok (.iaload, 1) := by decide +kernel
theorem dX6_takenByBookings_56 : decode cX6_takenByBookings 56 = .ok (.iload_n 1, 1) := by decide +kernel
theorem dX6_takenByBookings_57 : decode cX6_takenByBookings 57 = .ok (.if_icmp .ne 18, 3) := by decide +kernel
theorem dX6_takenByBookings_60 : decode cX6_takenByBookings 60 = .ok (.aload_n 0, 1) := by decide +kernel
theorem dX6_takenByBookings_61 : decode cX6_takenByBookings 61 = .ok (.getfield 43, 3) := by decide +kernel
theorem dX6_takenByBookings_64 : decode cX6_takenByBookings 64 = .ok (.iload 4, 2) := by decide +kernel
theorem dX6_takenByBookings_66 : decode cX6_takenByBookings 66 = .ok (.iaload, 1) := by decide +kernel
theorem dX6_takenByBookings_67 : decode cX6_takenByBookings 67 = .ok (.iload_n 2, 1) := by decide +kernel
theorem dX6_takenByBookings_68 : decode cX6_takenByBookings 68 = .ok (.if_icmp .ne 7, 3) := by decide +kernel
theorem dX6_takenByBookings_71 : decode cX6_takenByBookings 71 = .ok (.iconst 1, 1) := by decide +kernel
theorem dX6_takenByBookings_72 : decode cX6_takenByBookings 72 = .ok (.goto 4, 3) := by decide +kernel
theorem dX6_takenByBookings_75 : decode cX6_takenByBookings 75 = .ok (.iconst 0, 1) := by decide +kernel
theorem dX6_takenByBookings_76 : decode cX6_takenByBookings 76 = .ok (.iadd, 1) := by decide +kernel
theorem dX6_takenByBookings_77 : decode cX6_takenByBookings 77 = .ok (.istore_n 3, 1) := by decide +kernel
theorem dX6_takenByBookings_78 : decode cX6_takenByBookings 78 = .ok (.iinc 4 1, 3) := by decide +kernel
theorem dX6_takenByBookings_81 : decode cX6_takenByBookings 81 = .ok (.goto (-56), 3) := by decide +kernel
theorem dX6_takenByBookings_84 : decode cX6_takenByBookings 84 = .ok (.iload_n 3, 1) := by decide +kernel
theorem dX6_takenByBookings_85 : decode cX6_takenByBookings 85 = .ok (.ireturn, 1) := by decide +kernel
set_option maxRecDepth 20000 in
theorem ggX6_extra_X6_isInn : GoodIn wsX6_extra wsX6_isInn := goodIn_r _ [4, 5, 6, 3, 7] (by decide +kernel) (by decide +kernel)
set_option maxRecDepth 20000 in
theorem gX6_extra_X6_isInn : GoodIn wsX6_extra (va_wsS RX6 73 yX6_isInn wsX6_isInn) := goodIn_app (goodIn_of _ (by decide +kernel)) ggX6_extra_X6_isInn
set_option maxRecDepth 20000 in
theorem ggX6_extra_X6_isFine : GoodIn wsX6_extra wsX6_isFine := goodIn_r _ [11, 12, 19, 20, 21, 22, 23, 24, 25, 26, 27, 28, 29, 30, 31, 32, 33, 34, 35, 36, 37, 38, 39, 40, 41, 42] (by decide +kernel) (by decide +kernel)
set_option maxRecDepth 20000 in
theorem gX6_extra_X6_isFine : GoodIn wsX6_extra (wsV RX6 81 RX6 yX6_isFine wsX6_isFine) := goodIn_app (goodIn_of _ (by decide +kernel)) ggX6_extra_X6_isFine
set_option maxRecDepth 20000 in
theorem ggX6_extra_X6_extraOf : GoodIn wsX6_extra wsX6_extraOf := goodIn_r _ [16, 17, 18, 19, 20, 21, 22, 23, 24, 25, 26, 27, 28, 29, 30, 31, 32, 33, 34, 35, 36, 37, 38, 39, 40, 41, 42] (by decide +kernel) (by decide +kernel)
set_option maxRecDepth 20000 in
theorem gX6_extra_X6_extraOf : GoodIn wsX6_extra (wsV RX6 97 RX6 yX6_extraOf wsX6_extraOf) := goodIn_app (goodIn_of _ (by decide +kernel)) ggX6_extra_X6_extraOf
theorem dX6_extra_0 : decode cX6_extra 0 = .ok (.aload_n 0, 1) := by decide +kernel
theorem dX6_extra_1 : decode cX6_extra 1 = .ok (.iload_n 1, 1) := by decide +kernel
theorem dX6_extra_2 : decode cX6_extra 2 = .ok (.invokestatic 73, 3) := by decide +kernel
theorem dX6_extra_5 : decode cX6_extra 5 = .ok (.ifCond .eq 7, 3) := by decide +kernel
theorem dX6_extra_8 : decode cX6_extra 8 = .ok (.iconst 0, 1) := by decide +kernel
theorem dX6_extra_9 : decode cX6_extra 9 = .ok (.goto 4, 3) := by decide +kernel
theorem dX6_extra_12 : decode cX6_extra 12 = .ok (.iconst 1, 1) := by decide +kernel
theorem dX6_extra_13 : decode cX6_extra 13 = .ok (.invokevirtual 81, 3) := by decide +kernel
theorem dX6_extra_16 : decode cX6_extra 16 = .ok (.ifCond .eq 11, 3) := by decide +kernel
theorem dX6_extra_19 : decode cX6_extra 19 = .ok (.aload_n 0, 1) := by decide +kernel
theorem dX6_extra_20 : decode cX6_extra 20 = .ok (.iload_n 1, 1) := by decide +kernel
theorem dX6_extra_21 : decode cX6_extra 21 = .ok (.invokevirtual 97, 3) := by decide +kernel
theorem dX6_extra_24 : decode cX6_extra 24 = .ok (.goto 4, 3) := by decide +kernel
theorem dX6_extra_27 : decode cX6_extra 27 = .ok (.iconst 0, 1) := by decide +kernel
theorem dX6_extra_28 : decode cX6_extra 28 = .ok (.ireturn, 1) := by decide +kernel
set_option maxRecDepth 20000 in
theorem ggX6_clean_X6_isInn : GoodIn wsX6_clean wsX6_isInn := goodIn_r _ [5, 6, 7, 4, 8] (by decide +kernel) (by decide +kernel)
set_option maxRecDepth 20000 in
theorem gX6_clean_X6_isInn : GoodIn wsX6_clean (va_wsS RX6 73 yX6_isInn wsX6_isInn) := goodIn_app (goodIn_of _ (by decide +kernel)) ggX6_clean_X6_isInn
set_option maxRecDepth 20000 in
theorem ggX6_clean_X6_isFine : GoodIn wsX6_clean wsX6_isFine := goodIn_r _ [12, 13, 14, 15, 16, 17, 18, 19, 20, 21, 22, 23, 24, 25, 26, 27, 28, 29, 30, 31, 32, 33, 34, 35, 36, 37] (by decide +kernel) (by decide +kernel)
set_option maxRecDepth 20000 in
theorem gX6_clean_X6_isFine : GoodIn wsX6_clean (wsV RX6 81 RX6 yX6_isFine wsX6_isFine) := goodIn_app (goodIn_of _ (by decide +kernel)) ggX6_clean_X6_isFine
theorem dX6_clean_0 : decode cX6_clean 0 = .ok (.aload_n 0, 1) := by decide +kernel
theorem dX6_clean_1 : decode cX6_clean 1 = .ok (.iload_n 1, 1) := by decide +kernel
theorem dX6_clean_2 : decode cX6_clean 2 = .ok (.invokestatic 73, 3) := by decide +kernel
theorem dX6_clean_5 : decode cX6_clean 5 = .ok (.ifCond .eq 7, 3) := by decide +kernel
theorem dX6_clean_8 : decode cX6_clean 8 = .ok (.iconst 0, 1) := by decide +kernel
theorem dX6_clean_9 : decode cX6_clean 9 = .ok (.goto 4, 3) := by decide +kernel
theorem dX6_clean_12 : decode cX6_clean 12 = .ok (.iconst 1, 1) := by decide +kernel
theorem dX6_clean_13 : decode cX6_clean 13 = .ok (.invokevirtual 81, 3) := by decide +kernel
theorem dX6_clean_16 : decode cX6_clean 16 = .ok (.ifCond .eq 12, 3) := by decide +kernel
theorem dX6_clean_19 : decode cX6_clean 19 = .ok (.aload_n 0, 1) := by decide +kernel
theorem dX6_clean_20 : decode cX6_clean 20 = .ok (.getfield 19, 3) := by decide +kernel
theorem dX6_clean_23 : decode cX6_clean 23 = .ok (.iload_n 1, 1) := by decide +kernel
theorem dX6_clean_24 : decode cX6_clean 24 = .ok (.iaload, 1) := by decide +kernel
theorem dX6_clean_25 : decode cX6_clean 25 = .ok (.goto 4, 3) := by decide +kernel
theorem dX6_clean_28 : decode cX6_clean 28 = .ok (.iconst 0, 1) := by decide +kernel
theorem dX6_clean_29 : decode cX6_clean 29 = .ok (.ireturn, 1) := by decide +kernel
set_option maxRecDepth 20000 in
theorem ggX6_away_X6_isInn : GoodIn wsX6_away wsX6_isInn := goodIn_r _ [7, 8, 9, 6, 10] (by decide +kernel) (by decide +kernel)
set_option maxRecDepth 20000 in
theorem gX6_away_X6_isInn : GoodIn wsX6_away (va_wsS RX6 73 yX6_isInn wsX6_isInn) := goodIn_app (goodIn_of _ (by decide +kernel)) ggX6_away_X6_isInn
set_option maxRecDepth 20000 in
theorem ggX6_away_X6_isFine : GoodIn wsX6_away wsX6_isFine := goodIn_r _ [14, 15, 16, 17, 18, 19, 20, 21, 22, 23, 24, 25, 26, 27, 28, 29, 30, 31, 32, 33, 34, 35, 36, 37, 38, 39] (by decide +kernel) (by decide +kernel)
set_option maxRecDepth 20000 in
theorem gX6_away_X6_isFine : GoodIn wsX6_away (wsV RX6 81 RX6 yX6_isFine wsX6_isFine) := goodIn_app (goodIn_of _ (by decide +kernel)) ggX6_away_X6_isFine
theorem dX6_away_0 : decode cX6_away 0 = .ok (.aload_n 0, 1) := by decide +kernel
theorem dX6_away_1 : decode cX6_away 1 = .ok (.iload_n 1, 1) := by decide +kernel
theorem dX6_away_2 : decode cX6_away 2 = .ok (.invokestatic 73, 3) := by decide +kernel
theorem dX6_away_5 : decode cX6_away 5 = .ok (.ifCond .eq 7, 3) := by decide +kernel
theorem dX6_away_8 : decode cX6_away 8 = .ok (.iconst 0, 1) := by decide +kernel
theorem dX6_away_9 : decode cX6_away 9 = .ok (.goto 4, 3) := by decide +kernel
theorem dX6_away_12 : decode cX6_away 12 = .ok (.iconst 1, 1) := by decide +kernel
theorem dX6_away_13 : decode cX6_away 13 = .ok (.invokevirtual 81, 3) := by decide +kernel
theorem dX6_away_16 : decode cX6_away 16 = .ok (.ifCond .ne 5, 3) := by decide +kernel
theorem dX6_away_19 : decode cX6_away 19 = .ok (.iconst 0, 1) := by decide +kernel
theorem dX6_away_20 : decode cX6_away 20 = .ok (.ireturn, 1) := by decide +kernel
theorem dX6_away_21 : decode cX6_away 21 = .ok (.aload_n 0, 1) := by decide +kernel
theorem dX6_away_22 : decode cX6_away 22 = .ok (.getfield 22, 3) := by decide +kernel
theorem dX6_away_25 : decode cX6_away 25 = .ok (.iload_n 1, 1) := by decide +kernel
theorem dX6_away_26 : decode cX6_away 26 = .ok (.iaload, 1) := by decide +kernel
theorem dX6_away_27 : decode cX6_away 27 = .ok (.istore_n 2, 1) := by decide +kernel
theorem dX6_away_28 : decode cX6_away 28 = .ok (.iconst 0, 1) := by decide +kernel
theorem dX6_away_29 : decode cX6_away 29 = .ok (.istore_n 3, 1) := by decide +kernel
theorem dX6_away_30 : decode cX6_away 30 = .ok (.iload_n 3, 1) := by decide +kernel
theorem dX6_away_31 : decode cX6_away 31 = .ok (.aload_n 0, 1) := by decide +kernel
theorem dX6_away_32 : decode cX6_away 32 = .ok (.getfield 88, 3) := by decide +kernel
theorem dX6_away_35 : decode cX6_away 35 = .ok (.if_icmp .ge 22, 3) := by decide +kernel
theorem dX6_away_38 : decode cX6_away 38 = .ok (.iload_n 2, 1) := by decide +kernel
theorem dX6_away_39 : decode cX6_away 39 = .ok (.aload_n 0, 1) := by decide +kernel
theorem dX6_away_40 : decode cX6_away 40 = .ok (.getfield 31, 3) := by decide +kernel
theorem dX6_away_43 : decode cX6_away 43 = .ok (.iconst 4, 1) := by decide +kernel
theorem dX6_away_44 : decode cX6_away 44 = .ok (.iload_n 3, 1) := by decide +kernel
theorem dX6_away_45 : decode cX6_away 45 = .ok (.imul, 1) := by decide +kernel
theorem dX6_away_46 : decode cX6_away 46 = .ok (.iload_n 1, 1) := by decide +kernel
theorem dX6_away_47 : decode cX6_away 47 = .ok (.iadd, 1) := by decide +kernel
theorem dX6_away_48 : decode cX6_away 48 = .ok (.iaload, 1) := by decide +kernel
theorem dX6_away_49 : decode cX6_away 49 = .ok (.iadd, 1) := by decide +kernel
theorem dX6_away_50 : decode cX6_away 50 = .ok (.istore_n 2, 1) := by decide +kernel
theorem dX6_away_51 : decode cX6_away 51 = .ok (.iinc 3 1, 3) := by decide +kernel
theorem dX6_away_54 : decode cX6_away 54 = .ok (.goto (-24), 3) := by decide +kernel
theorem dX6_away_57 : decode cX6_away 57 = .ok (.iload_n 2, 1) := by decide +kernel
theorem dX6_away_58 : decode cX6_away 58 = .ok (.ireturn, 1) := by decide +kernel
set_option maxRecDepth 20000 in
theorem ggX6_sleeps_X6_in : GoodIn wsX6_sleeps wsX6_in := goodIn_r _ [6] (by decide +kernel) (by decide +kernel)
set_option maxRecDepth 20000 in
theorem gX6_sleeps_X6_in : GoodIn wsX6_sleeps (va_wsS RX6 69 yX6_in wsX6_in) := goodIn_app (goodIn_of _ (by decide +kernel)) ggX6_sleeps_X6_in
set_option maxRecDepth 20000 in
theorem ggX6_sleeps_X6_isFine : GoodIn wsX6_sleeps wsX6_isFine := goodIn_r _ [10, 11, 12, 13, 14, 15, 16, 17, 18, 19, 20, 21, 22, 23, 24, 25, 26, 27, 28, 29, 30, 31, 32, 33, 34, 35] (by decide +kernel) (by decide +kernel)
set_option maxRecDepth 20000 in
theorem gX6_sleeps_X6_isFine : GoodIn wsX6_sleeps (wsV RX6 81 RX6 yX6_isFine wsX6_isFine) := goodIn_app (goodIn_of _ (by decide +kernel)) ggX6_sleeps_X6_isFine
theorem dX6_sleeps_0 : decode cX6_sleeps 0 = .ok (.aload_n 0, 1) := by decide +kernel
theorem dX6_sleeps_1 : decode cX6_sleeps 1 = .ok (.iload_n 1, 1) := by decide +kernel
theorem dX6_sleeps_2 : decode cX6_sleeps 2 = .ok (.iconst 0, 1) := by decide +kernel
theorem dX6_sleeps_3 : decode cX6_sleeps 3 = .ok (.aload_n 0, 1) := by decide +kernel
theorem dX6_sleeps_4 : decode cX6_sleeps 4 = .ok (.getfield 94, 3) := by decide +kernel
theorem dX6_sleeps_7 : decode cX6_sleeps 7 = .ok (.iconst 1, 1) := by decide +kernel
theorem dX6_sleeps_8 : decode cX6_sleeps 8 = .ok (.isub, 1) := by decide +kernel
theorem dX6_sleeps_9 : decode cX6_sleeps 9 = .ok (.invokestatic 69, 3) := by decide +kernel
theorem dX6_sleeps_12 : decode cX6_sleeps 12 = .ok (.ifCond .eq 7, 3) := by decide +kernel
theorem dX6_sleeps_15 : decode cX6_sleeps 15 = .ok (.iconst 0, 1) := by decide +kernel
theorem dX6_sleeps_16 : decode cX6_sleeps 16 = .ok (.goto 4, 3) := by decide +kernel
theorem dX6_sleeps_19 : decode cX6_sleeps 19 = .ok (.iconst 1, 1) := by decide +kernel
theorem dX6_sleeps_20 : decode cX6_sleeps 20 = .ok (.invokevirtual 81, 3) := by decide +kernel
theorem dX6_sleeps_23 : decode cX6_sleeps 23 = .ok (.ifCond .eq 12, 3) := by decide +kernel
theorem dX6_sleeps_26 : decode cX6_sleeps 26 = .ok (.aload_n 0, 1) := by decide +kernel
theorem dX6_sleeps_27 : decode cX6_sleeps 27 = .ok (.getfield 53, 3) := by decide +kernel
theorem dX6_sleeps_30 : decode cX6_sleeps 30 = .ok (.iload_n 1, 1) := by decide +kernel
theorem dX6_sleeps_31 : decode cX6_sleeps 31 = .ok (.iaload, 1) := by decide +kernel
theorem dX6_sleeps_32 : decode cX6_sleeps 32 = .ok (.goto 4, 3) := by decide +kernel
theorem dX6_sleeps_35 : decode cX6_sleeps 35 = .ok (.iconst 0, 1) := by decide +kernel
theorem dX6_sleeps_36 : decode cX6_sleeps 36 = .ok (.ireturn, 1) := by decide +kernel
set_option maxRecDepth 20000 in
theorem ggX6_points_X6_isGuest : GoodIn wsX6_points wsX6_isGuest := goodIn_r _ [4, 5, 6, 3, 7] (by decide +kernel) (by decide +kernel)
set_option maxRecDepth 20000 in
theorem gX6_points_X6_isGuest : GoodIn wsX6_points (va_wsS RX6 91 yX6_isGuest wsX6_isGuest) := goodIn_app (goodIn_of _ (by decide +kernel)) ggX6_points_X6_isGuest
set_option maxRecDepth 20000 in
theorem ggX6_points_X6_isFine : GoodIn wsX6_points wsX6_isFine := goodIn_r _ [11, 12, 20, 21, 22, 23, 24, 25, 26, 27, 28, 29, 30, 31, 32, 33, 34, 35, 36, 37, 38, 39, 40, 41, 42, 43] (by decide +kernel) (by decide +kernel)
set_option maxRecDepth 20000 in
theorem gX6_points_X6_isFine : GoodIn wsX6_points (wsV RX6 81 RX6 yX6_isFine wsX6_isFine) := goodIn_app (goodIn_of _ (by decide +kernel)) ggX6_points_X6_isFine
set_option maxRecDepth 20000 in
theorem ggX6_points_X6_pointsOf : GoodIn wsX6_points wsX6_pointsOf := goodIn_r _ [16, 17, 18, 19, 20, 21, 22, 23, 24, 25, 26, 27, 28, 29, 30, 31, 32, 33, 34, 35, 36, 37, 38, 39, 40, 41, 42, 43] (by decide +kernel) (by decide +kernel)
set_option maxRecDepth 20000 in
theorem gX6_points_X6_pointsOf : GoodIn wsX6_points (wsV RX6 125 RX6 yX6_pointsOf wsX6_pointsOf) := goodIn_app (goodIn_of _ (by decide +kernel)) ggX6_points_X6_pointsOf
theorem dX6_points_0 : decode cX6_points 0 = .ok (.aload_n 0, 1) := by decide +kernel
theorem dX6_points_1 : decode cX6_points 1 = .ok (.iload_n 1, 1) := by decide +kernel
theorem dX6_points_2 : decode cX6_points 2 = .ok (.invokestatic 91, 3) := by decide +kernel
theorem dX6_points_5 : decode cX6_points 5 = .ok (.ifCond .eq 7, 3) := by decide +kernel
theorem dX6_points_8 : decode cX6_points 8 = .ok (.iconst 0, 1) := by decide +kernel
theorem dX6_points_9 : decode cX6_points 9 = .ok (.goto 4, 3) := by decide +kernel
theorem dX6_points_12 : decode cX6_points 12 = .ok (.iconst 1, 1) := by decide +kernel
theorem dX6_points_13 : decode cX6_points 13 = .ok (.invokevirtual 81, 3) := by decide +kernel
theorem dX6_points_16 : decode cX6_points 16 = .ok (.ifCond .eq 11, 3) := by decide +kernel
theorem dX6_points_19 : decode cX6_points 19 = .ok (.aload_n 0, 1) := by decide +kernel
theorem dX6_points_20 : decode cX6_points 20 = .ok (.iload_n 1, 1) := by decide +kernel
theorem dX6_points_21 : decode cX6_points 21 = .ok (.invokevirtual 125, 3) := by decide +kernel
theorem dX6_points_24 : decode cX6_points 24 = .ok (.goto 4, 3) := by decide +kernel
theorem dX6_points_27 : decode cX6_points 27 = .ok (.iconst 0, 1) := by decide +kernel
theorem dX6_points_28 : decode cX6_points 28 = .ok (.ireturn, 1) := by decide +kernel
set_option maxRecDepth 20000 in
theorem ggX6_owes_X6_isInn : GoodIn wsX6_owes wsX6_isInn := goodIn_r _ [4, 5, 6, 3, 7] (by decide +kernel) (by decide +kernel)
set_option maxRecDepth 20000 in
theorem gX6_owes_X6_isInn : GoodIn wsX6_owes (va_wsS RX6 73 yX6_isInn wsX6_isInn) := goodIn_app (goodIn_of _ (by decide +kernel)) ggX6_owes_X6_isInn
set_option maxRecDepth 20000 in
theorem ggX6_owes_X6_isFine : GoodIn wsX6_owes wsX6_isFine := goodIn_r _ [11, 12, 18, 19, 20, 21, 22, 23, 24, 25, 26, 27, 28, 29, 30, 31, 32, 33, 34, 35, 36, 37, 38, 39, 40, 41] (by decide +kernel) (by decide +kernel)
set_option maxRecDepth 20000 in
theorem gX6_owes_X6_isFine : GoodIn wsX6_owes (wsV RX6 81 RX6 yX6_isFine wsX6_isFine) := goodIn_app (goodIn_of _ (by decide +kernel)) ggX6_owes_X6_isFine
set_option maxRecDepth 20000 in
theorem ggX6_owes_X6_owed : GoodIn wsX6_owes wsX6_owed := goodIn_r _ [16, 17, 18, 19, 20, 21, 22, 23, 24, 25, 26, 27, 28, 29, 30, 31, 32, 33, 34, 35, 36, 37, 38, 39, 40, 41] (by decide +kernel) (by decide +kernel)
set_option maxRecDepth 20000 in
theorem gX6_owes_X6_owed : GoodIn wsX6_owes (wsV RX6 128 RX6 yX6_owed wsX6_owed) := goodIn_app (goodIn_of _ (by decide +kernel)) ggX6_owes_X6_owed
theorem dX6_owes_0 : decode cX6_owes 0 = .ok (.aload_n 0, 1) := by decide +kernel
theorem dX6_owes_1 : decode cX6_owes 1 = .ok (.iload_n 1, 1) := by decide +kernel
theorem dX6_owes_2 : decode cX6_owes 2 = .ok (.invokestatic 73, 3) := by decide +kernel
theorem dX6_owes_5 : decode cX6_owes 5 = .ok (.ifCond .eq 14, 3) := by decide +kernel
theorem dX6_owes_8 : decode cX6_owes 8 = .ok (.iload_n 2, 1) := by decide +kernel
theorem dX6_owes_9 : decode cX6_owes 9 = .ok (.invokestatic 73, 3) := by decide +kernel
theorem dX6_owes_12 : decode cX6_owes 12 = .ok (.ifCond .eq 7, 3) := by decide +kernel
theorem dX6_owes_15 : decode cX6_owes 15 = .ok (.iconst 0, 1) := by decide +kernel
theorem dX6_owes_16 : decode cX6_owes 16 = .ok (.goto 4, 3) := by decide +kernel
theorem dX6_owes_19 : decode cX6_owes 19 = .ok (.iconst 1, 1) := by decide +kernel
theorem dX6_owes_20 : decode cX6_owes 20 = .ok (.invokevirtual 81, 3) := by decide +kernel
theorem dX6_owes_23 : decode cX6_owes 23 = .ok (.ifCond .eq 12, 3) := by decide +kernel
theorem dX6_owes_26 : decode cX6_owes 26 = .ok (.aload_n 0, 1) := by decide +kernel
theorem dX6_owes_27 : decode cX6_owes 27 = .ok (.iload_n 1, 1) := by decide +kernel
theorem dX6_owes_28 : decode cX6_owes 28 = .ok (.iload_n 2, 1) := by decide +kernel
theorem dX6_owes_29 : decode cX6_owes 29 = .ok (.invokevirtual 128, 3) := by decide +kernel
theorem dX6_owes_32 : decode cX6_owes 32 = .ok (.goto 4, 3) := by decide +kernel
theorem dX6_owes_35 : decode cX6_owes 35 = .ok (.iconst 0, 1) := by decide +kernel
theorem dX6_owes_36 : decode cX6_owes 36 = .ok (.ireturn, 1) := by decide +kernel
set_option maxRecDepth 20000 in
theorem ggX6_purse_X6_isInn : GoodIn wsX6_purse wsX6_isInn := goodIn_r _ [5, 6, 7, 4, 8] (by decide +kernel) (by decide +kernel)
set_option maxRecDepth 20000 in
theorem gX6_purse_X6_isInn : GoodIn wsX6_purse (va_wsS RX6 73 yX6_isInn wsX6_isInn) := goodIn_app (goodIn_of _ (by decide +kernel)) ggX6_purse_X6_isInn
set_option maxRecDepth 20000 in
theorem ggX6_purse_X6_isFine : GoodIn wsX6_purse wsX6_isFine := goodIn_r _ [12, 13, 14, 15, 16, 17, 18, 19, 20, 21, 22, 23, 24, 25, 26, 27, 28, 29, 30, 31, 32, 33, 34, 35, 36, 37] (by decide +kernel) (by decide +kernel)
set_option maxRecDepth 20000 in
theorem gX6_purse_X6_isFine : GoodIn wsX6_purse (wsV RX6 81 RX6 yX6_isFine wsX6_isFine) := goodIn_app (goodIn_of _ (by decide +kernel)) ggX6_purse_X6_isFine
theorem dX6_purse_0 : decode cX6_purse 0 = .ok (.aload_n 0, 1) := by decide +kernel
theorem dX6_purse_1 : decode cX6_purse 1 = .ok (.iload_n 1, 1) := by decide +kernel
theorem dX6_purse_2 : decode cX6_purse 2 = .ok (.invokestatic 73, 3) := by decide +kernel
theorem dX6_purse_5 : decode cX6_purse 5 = .ok (.ifCond .eq 7, 3) := by decide +kernel
theorem dX6_purse_8 : decode cX6_purse 8 = .ok (.iconst 0, 1) := by decide +kernel
theorem dX6_purse_9 : decode cX6_purse 9 = .ok (.goto 4, 3) := by decide +kernel
theorem dX6_purse_12 : decode cX6_purse 12 = .ok (.iconst 1, 1) := by decide +kernel
theorem dX6_purse_13 : decode cX6_purse 13 = .ok (.invokevirtual 81, 3) := by decide +kernel
theorem dX6_purse_16 : decode cX6_purse 16 = .ok (.ifCond .eq 12, 3) := by decide +kernel
theorem dX6_purse_19 : decode cX6_purse 19 = .ok (.aload_n 0, 1) := by decide +kernel
theorem dX6_purse_20 : decode cX6_purse 20 = .ok (.getfield 25, 3) := by decide +kernel
theorem dX6_purse_23 : decode cX6_purse 23 = .ok (.iload_n 1, 1) := by decide +kernel
theorem dX6_purse_24 : decode cX6_purse 24 = .ok (.iaload, 1) := by decide +kernel
theorem dX6_purse_25 : decode cX6_purse 25 = .ok (.goto 4, 3) := by decide +kernel
theorem dX6_purse_28 : decode cX6_purse 28 = .ok (.iconst 0, 1) := by decide +kernel
theorem dX6_purse_29 : decode cX6_purse 29 = .ok (.ireturn, 1) := by decide +kernel
theorem dJ9_abs_0f7a4_0 : decode cJ9_abs_0f7a4 0 = .ok (.iload_n 0, 1) := by decide +kernel
theorem dJ9_abs_0f7a4_1 : decode cJ9_abs_0f7a4 1 = .ok (.ifCond .ge 8, 3) := by decide +kernel
theorem dJ9_abs_0f7a4_4 : decode cJ9_abs_0f7a4 4 = .ok (.iload_n 0, 1) := by decide +kernel
theorem dJ9_abs_0f7a4_5 : decode cJ9_abs_0f7a4 5 = .ok (.ineg, 1) := by decide +kernel
theorem dJ9_abs_0f7a4_6 : decode cJ9_abs_0f7a4 6 = .ok (.goto 4, 3) := by decide +kernel
theorem dJ9_abs_0f7a4_9 : decode cJ9_abs_0f7a4 9 = .ok (.iload_n 0, 1) := by decide +kernel
theorem dJ9_abs_0f7a4_10 : decode cJ9_abs_0f7a4 10 = .ok (.ireturn, 1) := by decide +kernel
theorem dJ9_max_7cf53_0 : decode cJ9_max_7cf53 0 = .ok (.iload_n 0, 1) := by decide +kernel
theorem dJ9_max_7cf53_1 : decode cJ9_max_7cf53 1 = .ok (.iload_n 1, 1) := by decide +kernel
theorem dJ9_max_7cf53_2 : decode cJ9_max_7cf53 2 = .ok (.if_icmp .lt 7, 3) := by decide +kernel
theorem dJ9_max_7cf53_5 : decode cJ9_max_7cf53 5 = .ok (.iload_n 0, 1) := by decide +kernel
theorem dJ9_max_7cf53_6 : decode cJ9_max_7cf53 6 = .ok (.goto 4, 3) := by decide +kernel
theorem dJ9_max_7cf53_9 : decode cJ9_max_7cf53 9 = .ok (.iload_n 1, 1) := by decide +kernel
theorem dJ9_max_7cf53_10 : decode cJ9_max_7cf53 10 = .ok (.ireturn, 1) := by decide +kernel
theorem dJ9_min_7cf53_0 : decode cJ9_min_7cf53 0 = .ok (.iload_n 0, 1) := by decide +kernel
theorem dJ9_min_7cf53_1 : decode cJ9_min_7cf53 1 = .ok (.iload_n 1, 1) := by decide +kernel
theorem dJ9_min_7cf53_2 : decode cJ9_min_7cf53 2 = .ok (.if_icmp .gt 7, 3) := by decide +kernel
theorem dJ9_min_7cf53_5 : decode cJ9_min_7cf53 5 = .ok (.iload_n 0, 1) := by decide +kernel
theorem dJ9_min_7cf53_6 : decode cJ9_min_7cf53 6 = .ok (.goto 4, 3) := by decide +kernel
theorem dJ9_min_7cf53_9 : decode cJ9_min_7cf53 9 = .ok (.iload_n 1, 1) := by decide +kernel
theorem dJ9_min_7cf53_10 : decode cJ9_min_7cf53 10 = .ok (.ireturn, 1) := by decide +kernel
set_option maxRecDepth 20000 in
theorem ggL_setRooms_X5_setRooms : GoodIn wsL_setRooms wsX5_setRooms := goodIn_ca (goodIn_ca (goodIn_r _ [7, 8, 9, 10, 6, 11, 12, 13, 14, 15, 16, 17, 18, 19, 20, 21, 22, 23, 24, 25, 26, 27, 28, 29, 30, 31, 32, 33, 34, 35, 36, 37, 38, 39, 40] (by decide +kernel) (by decide +kernel)) (goodIn_sub (fun _ h => List.mem_cons_of_mem _ (List.mem_append_left _ (List.mem_append_right _ h))) (by decide +kernel))) (goodIn_sub (fun _ h => List.mem_cons_of_mem _ (List.mem_append_right _ h)) (by decide +kernel))
set_option maxRecDepth 20000 in
theorem gL_setRooms_X5_setRooms : GoodIn wsL_setRooms (wsV RL 7 RX5 yX5_setRooms wsX5_setRooms) := goodIn_app (goodIn_of _ (by decide +kernel)) ggL_setRooms_X5_setRooms
theorem dL_setRooms_0 : decode cL_setRooms 0 = .ok (.aload 5, 2) := by decide +kernel
theorem dL_setRooms_2 : decode cL_setRooms 2 = .ok (.iconst 0, 1) := by decide +kernel
theorem dL_setRooms_3 : decode cL_setRooms 3 = .ok (.aload_n 0, 1) := by decide +kernel
theorem dL_setRooms_4 : decode cL_setRooms 4 = .ok (.iload_n 1, 1) := by decide +kernel
theorem dL_setRooms_5 : decode cL_setRooms 5 = .ok (.iload_n 2, 1) := by decide +kernel
theorem dL_setRooms_6 : decode cL_setRooms 6 = .ok (.iload_n 3, 1) := by decide +kernel
theorem dL_setRooms_7 : decode cL_setRooms 7 = .ok (.iload 4, 2) := by decide +kernel
theorem dL_setRooms_9 : decode cL_setRooms 9 = .ok (.invokevirtual 7, 3) := by decide +kernel
theorem dL_setRooms_12 : decode cL_setRooms 12 = .ok (.i2l, 1) := by decide +kernel
theorem dL_setRooms_13 : decode cL_setRooms 13 = .ok (.lastore, 1) := by decide +kernel
theorem dL_setRooms_14 : decode cL_setRooms 14 = .ok (.goto 11, 3) := by decide +kernel
theorem dL_setRooms_17 : decode cL_setRooms 17 = .ok (.astore 6, 2) := by decide +kernel
theorem dL_setRooms_19 : decode cL_setRooms 19 = .ok (.iconst 1, 1) := by decide +kernel
theorem dL_setRooms_20 : decode cL_setRooms 20 = .ok (.ireturn, 1) := by decide +kernel
theorem dL_setRooms_21 : decode cL_setRooms 21 = .ok (.astore 6, 2) := by decide +kernel
theorem dL_setRooms_23 : decode cL_setRooms 23 = .ok (.iconst 2, 1) := by decide +kernel
theorem dL_setRooms_24 : decode cL_setRooms 24 = .ok (.ireturn, 1) := by decide +kernel
theorem dL_setRooms_25 : decode cL_setRooms 25 = .ok (.iconst 0, 1) := by decide +kernel
theorem dL_setRooms_26 : decode cL_setRooms 26 = .ok (.ireturn, 1) := by decide +kernel
set_option maxRecDepth 20000 in
theorem ggL_buyLinen_X5_buyLinen : GoodIn wsL_buyLinen wsX5_buyLinen := goodIn_ca (goodIn_ca (goodIn_r _ [7, 8, 9, 10, 6, 11, 12, 13, 14, 15, 16, 17, 18, 19, 20, 21, 22, 23, 24, 25, 26, 27, 28, 29, 30, 31, 32, 33, 34, 35, 36, 37] (by decide +kernel) (by decide +kernel)) (goodIn_sub (fun _ h => List.mem_cons_of_mem _ (List.mem_append_left _ (List.mem_append_right _ h))) (by decide +kernel))) (goodIn_sub (fun _ h => List.mem_cons_of_mem _ (List.mem_append_right _ h)) (by decide +kernel))
set_option maxRecDepth 20000 in
theorem gL_buyLinen_X5_buyLinen : GoodIn wsL_buyLinen (wsV RL 17 RX5 yX5_buyLinen wsX5_buyLinen) := goodIn_app (goodIn_of _ (by decide +kernel)) ggL_buyLinen_X5_buyLinen
theorem dL_buyLinen_0 : decode cL_buyLinen 0 = .ok (.aload_n 3, 1) := by decide +kernel
theorem dL_buyLinen_1 : decode cL_buyLinen 1 = .ok (.iconst 0, 1) := by decide +kernel
theorem dL_buyLinen_2 : decode cL_buyLinen 2 = .ok (.aload_n 0, 1) := by decide +kernel
theorem dL_buyLinen_3 : decode cL_buyLinen 3 = .ok (.iload_n 1, 1) := by decide +kernel
theorem dL_buyLinen_4 : decode cL_buyLinen 4 = .ok (.iload_n 2, 1) := by decide +kernel
theorem dL_buyLinen_5 : decode cL_buyLinen 5 = .ok (.invokevirtual 17, 3) := by decide +kernel
theorem dL_buyLinen_8 : decode cL_buyLinen 8 = .ok (.i2l, 1) := by decide +kernel
theorem dL_buyLinen_9 : decode cL_buyLinen 9 = .ok (.lastore, 1) := by decide +kernel
theorem dL_buyLinen_10 : decode cL_buyLinen 10 = .ok (.goto 11, 3) := by decide +kernel
theorem dL_buyLinen_13 : decode cL_buyLinen 13 = .ok (.astore 4, 2) := by decide +kernel
theorem dL_buyLinen_15 : decode cL_buyLinen 15 = .ok (.iconst 1, 1) := by decide +kernel
theorem dL_buyLinen_16 : decode cL_buyLinen 16 = .ok (.ireturn, 1) := by decide +kernel
theorem dL_buyLinen_17 : decode cL_buyLinen 17 = .ok (.astore 4, 2) := by decide +kernel
theorem dL_buyLinen_19 : decode cL_buyLinen 19 = .ok (.iconst 2, 1) := by decide +kernel
theorem dL_buyLinen_20 : decode cL_buyLinen 20 = .ok (.ireturn, 1) := by decide +kernel
theorem dL_buyLinen_21 : decode cL_buyLinen 21 = .ok (.iconst 0, 1) := by decide +kernel
theorem dL_buyLinen_22 : decode cL_buyLinen 22 = .ok (.ireturn, 1) := by decide +kernel
set_option maxRecDepth 20000 in
theorem ggL_book_X5_book : GoodIn wsL_book wsX5_book := goodIn_ca (goodIn_ca (goodIn_ca (goodIn_r _ [8, 9, 10, 11, 12, 13, 14, 7, 15, 16, 17, 18, 19, 20, 21, 22, 23, 24, 25, 26, 27, 28, 29, 30, 31, 32, 33, 34, 35, 36, 37, 38, 39, 40, 41, 42, 43, 44, 45, 46, 47, 48, 49, 50, 51, 52, 53, 54, 55, 56, 57, 58, 59, 60, 61, 62, 63, 64, 65, 66, 67, 68, 69, 70, 71, 72, 73, 74, 75, 76, 77, 78, 79, 80, 81, 82, 83, 84, 85, 86] (by decide +kernel) (by decide +kernel)) (goodIn_sub (fun _ h => List.mem_cons_of_mem _ (List.mem_append_left _ (List.mem_append_left _ (List.mem_append_right _ h)))) (by decide +kernel))) (goodIn_sub (fun _ h => List.mem_cons_of_mem _ (List.mem_append_left _ (List.mem_append_right _ h))) (by decide +kernel))) (goodIn_sub (fun _ h => List.mem_cons_of_mem _ (List.mem_append_right _ h)) (by decide +kernel))
set_option maxRecDepth 20000 in
theorem gL_book_X5_book : GoodIn wsL_book (wsV RL 21 RX5 yX5_book wsX5_book) := goodIn_app (goodIn_of _ (by decide +kernel)) ggL_book_X5_book
theorem dL_book_0 : decode cL_book 0 = .ok (.aload 5, 2) := by decide +kernel
theorem dL_book_2 : decode cL_book 2 = .ok (.iconst 0, 1) := by decide +kernel
theorem dL_book_3 : decode cL_book 3 = .ok (.aload_n 0, 1) := by decide +kernel
theorem dL_book_4 : decode cL_book 4 = .ok (.iload_n 1, 1) := by decide +kernel
theorem dL_book_5 : decode cL_book 5 = .ok (.iload_n 2, 1) := by decide +kernel
theorem dL_book_6 : decode cL_book 6 = .ok (.iload_n 3, 1) := by decide +kernel
theorem dL_book_7 : decode cL_book 7 = .ok (.iload 4, 2) := by decide +kernel
theorem dL_book_9 : decode cL_book 9 = .ok (.invokevirtual 21, 3) := by decide +kernel
theorem dL_book_12 : decode cL_book 12 = .ok (.i2l, 1) := by decide +kernel
theorem dL_book_13 : decode cL_book 13 = .ok (.lastore, 1) := by decide +kernel
theorem dL_book_14 : decode cL_book 14 = .ok (.goto 15, 3) := by decide +kernel
theorem dL_book_17 : decode cL_book 17 = .ok (.astore 6, 2) := by decide +kernel
theorem dL_book_19 : decode cL_book 19 = .ok (.iconst 1, 1) := by decide +kernel
theorem dL_book_20 : decode cL_book 20 = .ok (.ireturn, 1) := by decide +kernel
theorem dL_book_21 : decode cL_book 21 = .ok (.astore 6, 2) := by decide +kernel
theorem dL_book_23 : decode cL_book 23 = .ok (.iconst 2, 1) := by decide +kernel
theorem dL_book_24 : decode cL_book 24 = .ok (.ireturn, 1) := by decide +kernel
theorem dL_book_25 : decode cL_book 25 = .ok (.astore 6, 2) := by decide +kernel
theorem dL_book_27 : decode cL_book 27 = .ok (.iconst 3, 1) := by decide +kernel
theorem dL_book_28 : decode cL_book 28 = .ok (.ireturn, 1) := by decide +kernel
theorem dL_book_29 : decode cL_book 29 = .ok (.iconst 0, 1) := by decide +kernel
theorem dL_book_30 : decode cL_book 30 = .ok (.ireturn, 1) := by decide +kernel
set_option maxRecDepth 20000 in
theorem ggL_come_X5_come : GoodIn wsL_come wsX5_come := goodIn_ca (goodIn_ca (goodIn_r _ [7, 8, 9, 10, 11, 12, 13, 14, 15, 16, 17, 18, 6, 19, 20, 21, 22, 23, 24, 25, 26, 27, 28, 29, 30, 31, 32, 33, 34, 35, 36, 37, 38, 39, 40, 41, 42, 43, 44, 45, 46, 47, 48, 49, 50, 51, 52, 53, 54, 55, 56, 57, 58, 59, 60, 61, 62, 63, 64, 65, 66, 67, 68, 69, 70, 71, 72, 73, 74, 75, 76, 77, 78, 79, 80, 81, 82, 83, 84, 85, 86, 87, 88, 89, 90, 91, 92, 93, 94, 95, 96, 97, 98, 99, 100, 101, 102, 103, 104, 105, 106, 107, 108, 109, 110, 111, 112, 113, 114, 115, 116, 117, 118, 119, 120, 121, 122, 123, 124, 125, 126, 127, 128, 129, 130, 131, 132, 133, 134, 135, 136, 137, 138, 139, 140, 141, 142, 143, 144, 145, 146, 147, 148, 149, 150, 151, 152, 153, 154] (by decide +kernel) (by decide +kernel)) (goodIn_sub (fun _ h => List.mem_cons_of_mem _ (List.mem_append_left _ (List.mem_append_right _ h))) (by decide +kernel))) (goodIn_sub (fun _ h => List.mem_cons_of_mem _ (List.mem_append_right _ h)) (by decide +kernel))
set_option maxRecDepth 20000 in
theorem gL_come_X5_come : GoodIn wsL_come (wsV RL 26 RX5 yX5_come wsX5_come) := goodIn_app (goodIn_of _ (by decide +kernel)) ggL_come_X5_come
theorem dL_come_0 : decode cL_come 0 = .ok (.aload_n 2, 1) := by decide +kernel
theorem dL_come_1 : decode cL_come 1 = .ok (.iconst 0, 1) := by decide +kernel
theorem dL_come_2 : decode cL_come 2 = .ok (.aload_n 0, 1) := by decide +kernel
theorem dL_come_3 : decode cL_come 3 = .ok (.iload_n 1, 1) := by decide +kernel
theorem dL_come_4 : decode cL_come 4 = .ok (.invokevirtual 26, 3) := by decide +kernel
theorem dL_come_7 : decode cL_come 7 = .ok (.i2l, 1) := by decide +kernel
theorem dL_come_8 : decode cL_come 8 = .ok (.lastore, 1) := by decide +kernel
theorem dL_come_9 : decode cL_come 9 = .ok (.goto 9, 3) := by decide +kernel
theorem dL_come_12 : decode cL_come 12 = .ok (.astore_n 3, 1) := by decide +kernel
theorem dL_come_13 : decode cL_come 13 = .ok (.iconst 1, 1) := by decide +kernel
theorem dL_come_14 : decode cL_come 14 = .ok (.ireturn, 1) := by decide +kernel
theorem dL_come_15 : decode cL_come 15 = .ok (.astore_n 3, 1) := by decide +kernel
theorem dL_come_16 : decode cL_come 16 = .ok (.iconst 2, 1) := by decide +kernel
theorem dL_come_17 : decode cL_come 17 = .ok (.ireturn, 1) := by decide +kernel
theorem dL_come_18 : decode cL_come 18 = .ok (.iconst 0, 1) := by decide +kernel
theorem dL_come_19 : decode cL_come 19 = .ok (.ireturn, 1) := by decide +kernel
set_option maxRecDepth 20000 in
theorem ggL_burn_X5_burn : GoodIn wsL_burn wsX5_burn := goodIn_ca (goodIn_ca (goodIn_ca (goodIn_r _ [8, 9, 10, 11, 12, 13, 7, 14, 15, 16, 17, 18, 19, 20, 21, 22, 23, 24, 25, 26, 27, 28, 29, 30, 31, 32, 33, 34, 35, 36, 37, 38, 39, 40, 41, 42, 43, 44, 45, 46, 47, 48, 49, 50, 51, 52, 53, 54, 55, 56, 57, 58, 59, 60, 61, 62, 63, 64, 65, 66, 67, 68] (by decide +kernel) (by decide +kernel)) (goodIn_sub (fun _ h => List.mem_cons_of_mem _ (List.mem_append_left _ (List.mem_append_left _ (List.mem_append_right _ h)))) (by decide +kernel))) (goodIn_sub (fun _ h => List.mem_cons_of_mem _ (List.mem_append_left _ (List.mem_append_right _ h))) (by decide +kernel))) (goodIn_sub (fun _ h => List.mem_cons_of_mem _ (List.mem_append_right _ h)) (by decide +kernel))
set_option maxRecDepth 20000 in
theorem gL_burn_X5_burn : GoodIn wsL_burn (wsV RL 30 RX5 yX5_burn wsX5_burn) := goodIn_app (goodIn_of _ (by decide +kernel)) ggL_burn_X5_burn
theorem dL_burn_0 : decode cL_burn 0 = .ok (.aload 4, 2) := by decide +kernel
theorem dL_burn_2 : decode cL_burn 2 = .ok (.iconst 0, 1) := by decide +kernel
theorem dL_burn_3 : decode cL_burn 3 = .ok (.aload_n 0, 1) := by decide +kernel
theorem dL_burn_4 : decode cL_burn 4 = .ok (.iload_n 1, 1) := by decide +kernel
theorem dL_burn_5 : decode cL_burn 5 = .ok (.iload_n 2, 1) := by decide +kernel
theorem dL_burn_6 : decode cL_burn 6 = .ok (.iload_n 3, 1) := by decide +kernel
theorem dL_burn_7 : decode cL_burn 7 = .ok (.invokevirtual 30, 3) := by decide +kernel
theorem dL_burn_10 : decode cL_burn 10 = .ok (.i2l, 1) := by decide +kernel
theorem dL_burn_11 : decode cL_burn 11 = .ok (.lastore, 1) := by decide +kernel
theorem dL_burn_12 : decode cL_burn 12 = .ok (.goto 15, 3) := by decide +kernel
theorem dL_burn_15 : decode cL_burn 15 = .ok (.astore 5, 2) := by decide +kernel
theorem dL_burn_17 : decode cL_burn 17 = .ok (.iconst 1, 1) := by decide +kernel
theorem dL_burn_18 : decode cL_burn 18 = .ok (.ireturn, 1) := by decide +kernel
theorem dL_burn_19 : decode cL_burn 19 = .ok (.astore 5, 2) := by decide +kernel
theorem dL_burn_21 : decode cL_burn 21 = .ok (.iconst 2, 1) := by decide +kernel
theorem dL_burn_22 : decode cL_burn 22 = .ok (.ireturn, 1) := by decide +kernel
theorem dL_burn_23 : decode cL_burn 23 = .ok (.astore 5, 2) := by decide +kernel
theorem dL_burn_25 : decode cL_burn 25 = .ok (.iconst 3, 1) := by decide +kernel
theorem dL_burn_26 : decode cL_burn 26 = .ok (.ireturn, 1) := by decide +kernel
theorem dL_burn_27 : decode cL_burn 27 = .ok (.iconst 0, 1) := by decide +kernel
theorem dL_burn_28 : decode cL_burn 28 = .ok (.ireturn, 1) := by decide +kernel
set_option maxRecDepth 20000 in
theorem ggL_night_X5_night : GoodIn wsL_night wsX5_night := goodIn_ca (goodIn_r _ [6, 7, 8, 9, 10, 11, 12, 13, 14, 15, 16, 17, 18, 19, 20, 21, 22, 23, 24, 25, 26, 27, 28, 29, 30, 31, 32, 33, 34, 35, 36, 37, 38, 39, 40, 41, 42, 43, 44, 45, 46, 47, 48, 49, 50, 51, 52, 53, 54, 55, 56, 57, 58, 59, 60, 61] (by decide +kernel) (by decide +kernel)) (goodIn_sub (fun _ h => List.mem_cons_of_mem _ (List.mem_append_right _ h)) (by decide +kernel))
set_option maxRecDepth 20000 in
theorem gL_night_X5_night : GoodIn wsL_night (wsV RL 34 RX5 yX5_night wsX5_night) := goodIn_app (goodIn_of _ (by decide +kernel)) ggL_night_X5_night
theorem dL_night_0 : decode cL_night 0 = .ok (.aload_n 1, 1) := by decide +kernel
theorem dL_night_1 : decode cL_night 1 = .ok (.iconst 0, 1) := by decide +kernel
theorem dL_night_2 : decode cL_night 2 = .ok (.aload_n 0, 1) := by decide +kernel
theorem dL_night_3 : decode cL_night 3 = .ok (.invokevirtual 34, 3) := by decide +kernel
theorem dL_night_6 : decode cL_night 6 = .ok (.i2l, 1) := by decide +kernel
theorem dL_night_7 : decode cL_night 7 = .ok (.lastore, 1) := by decide +kernel
theorem dL_night_8 : decode cL_night 8 = .ok (.goto 6, 3) := by decide +kernel
theorem dL_night_11 : decode cL_night 11 = .ok (.astore_n 2, 1) := by decide +kernel
theorem dL_night_12 : decode cL_night 12 = .ok (.iconst 1, 1) := by decide +kernel
theorem dL_night_13 : decode cL_night 13 = .ok (.ireturn, 1) := by decide +kernel
theorem dL_night_14 : decode cL_night 14 = .ok (.iconst 0, 1) := by decide +kernel
theorem dL_night_15 : decode cL_night 15 = .ok (.ireturn, 1) := by decide +kernel
set_option maxRecDepth 20000 in
theorem ggL_free_X5_free : GoodIn wsL_free wsX5_free := goodIn_ca (goodIn_r _ [6, 7, 8, 9, 5, 10, 11, 12, 13, 14, 15, 16, 17, 18, 19, 20, 21, 22, 23, 24, 25, 26, 27, 28, 29, 30, 31, 32, 33, 34, 35, 36, 37, 38, 39, 40, 41, 42, 43, 44, 45, 46] (by decide +kernel) (by decide +kernel)) (goodIn_sub (fun _ h => List.mem_cons_of_mem _ (List.mem_append_right _ h)) (by decide +kernel))
end
section
set_option maxRecDepth 20000 in
theorem gL_free_X5_free : GoodIn wsL_free (wsV RL 38 RX5 yX5_free wsX5_free) := goodIn_app (goodIn_of _ (by decide +kernel)) ggL_free_X5_free
theorem dL_free_0 : decode cL_free 0 = .ok (.aload_n 3, 1) := by decide +kernel
theorem dL_free_1 : decode cL_free 1 = .ok (.iconst 0, 1) := by decide +kernel
theorem dL_free_2 : decode cL_free 2 = .ok (.aload_n 0, 1) := by decide +kernel
theorem dL_free_3 : decode cL_free 3 = .ok (.iload_n 1, 1) := by decide +kernel
theorem dL_free_4 : decode cL_free 4 = .ok (.iload_n 2, 1) := by decide +kernel
theorem dL_free_5 : decode cL_free 5 = .ok (.invokevirtual 38, 3) := by decide +kernel
theorem dL_free_8 : decode cL_free 8 = .ok (.i2l, 1) := by decide +kernel
theorem dL_free_9 : decode cL_free 9 = .ok (.lastore, 1) := by decide +kernel
theorem dL_free_10 : decode cL_free 10 = .ok (.goto 7, 3) := by decide +kernel
theorem dL_free_13 : decode cL_free 13 = .ok (.astore 4, 2) := by decide +kernel
theorem dL_free_15 : decode cL_free 15 = .ok (.iconst 1, 1) := by decide +kernel
theorem dL_free_16 : decode cL_free 16 = .ok (.ireturn, 1) := by decide +kernel
theorem dL_free_17 : decode cL_free 17 = .ok (.iconst 0, 1) := by decide +kernel
theorem dL_free_18 : decode cL_free 18 = .ok (.ireturn, 1) := by decide +kernel
set_option maxRecDepth 20000 in
theorem ggL_taken_X5_taken : GoodIn wsL_taken wsX5_taken := goodIn_ca (goodIn_r _ [6, 7, 8, 9, 5, 10, 11, 12, 13, 14, 15, 16, 17, 18, 19, 20, 21, 22, 23, 24, 25, 26, 27, 28, 29, 30, 31, 32, 33] (by decide +kernel) (by decide +kernel)) (goodIn_sub (fun _ h => List.mem_cons_of_mem _ (List.mem_append_right _ h)) (by decide +kernel))
set_option maxRecDepth 20000 in
theorem gL_taken_X5_taken : GoodIn wsL_taken (wsV RL 41 RX5 yX5_taken wsX5_taken) := goodIn_app (goodIn_of _ (by decide +kernel)) ggL_taken_X5_taken
theorem dL_taken_0 : decode cL_taken 0 = .ok (.aload_n 3, 1) := by decide +kernel
theorem dL_taken_1 : decode cL_taken 1 = .ok (.iconst 0, 1) := by decide +kernel
theorem dL_taken_2 : decode cL_taken 2 = .ok (.aload_n 0, 1) := by decide +kernel
theorem dL_taken_3 : decode cL_taken 3 = .ok (.iload_n 1, 1) := by decide +kernel
theorem dL_taken_4 : decode cL_taken 4 = .ok (.iload_n 2, 1) := by decide +kernel
theorem dL_taken_5 : decode cL_taken 5 = .ok (.invokevirtual 41, 3) := by decide +kernel
theorem dL_taken_8 : decode cL_taken 8 = .ok (.i2l, 1) := by decide +kernel
theorem dL_taken_9 : decode cL_taken 9 = .ok (.lastore, 1) := by decide +kernel
theorem dL_taken_10 : decode cL_taken 10 = .ok (.goto 7, 3) := by decide +kernel
theorem dL_taken_13 : decode cL_taken 13 = .ok (.astore 4, 2) := by decide +kernel
theorem dL_taken_15 : decode cL_taken 15 = .ok (.iconst 1, 1) := by decide +kernel
theorem dL_taken_16 : decode cL_taken 16 = .ok (.ireturn, 1) := by decide +kernel
theorem dL_taken_17 : decode cL_taken 17 = .ok (.iconst 0, 1) := by decide +kernel
theorem dL_taken_18 : decode cL_taken 18 = .ok (.ireturn, 1) := by decide +kernel
set_option maxRecDepth 20000 in
theorem ggL_takenByBookings_X5_takenByBookings : GoodIn wsL_takenByBookings wsX5_takenByBookings := goodIn_ca (goodIn_r _ [6, 7, 8, 9, 10, 5, 11, 12, 13, 14, 15, 16, 17, 18, 19, 20, 21, 22, 23, 24, 25, 26, 27, 28, 29, 30, 31, 32, 33, 34, 35, 36, 37, 38] (by decide +kernel) (by decide +kernel)) (goodIn_sub (fun _ h => List.mem_cons_of_mem _ (List.mem_append_right _ h)) (by decide +kernel))
set_option maxRecDepth 20000 in
theorem gL_takenByBookings_X5_takenByBookings : GoodIn wsL_takenByBookings (wsV RL 44 RX5 yX5_takenByBookings wsX5_takenByBookings) := goodIn_app (goodIn_of _ (by decide +kernel)) ggL_takenByBookings_X5_takenByBookings
theorem dL_takenByBookings_0 : decode cL_takenByBookings 0 = .ok (.aload_n 3, 1) := by decide +kernel
theorem dL_takenByBookings_1 : decode cL_takenByBookings 1 = .ok (.iconst 0, 1) := by decide +kernel
theorem dL_takenByBookings_2 : decode cL_takenByBookings 2 = .ok (.aload_n 0, 1) := by decide +kernel
theorem dL_takenByBookings_3 : decode cL_takenByBookings 3 = .ok (.iload_n 1, 1) := by decide +kernel
theorem dL_takenByBookings_4 : decode cL_takenByBookings 4 = .ok (.iload_n 2, 1) := by decide +kernel
theorem dL_takenByBookings_5 : decode cL_takenByBookings 5 = .ok (.invokevirtual 44, 3) := by decide +kernel
theorem dL_takenByBookings_8 : decode cL_takenByBookings 8 = .ok (.i2l, 1) := by decide +kernel
theorem dL_takenByBookings_9 : decode cL_takenByBookings 9 = .ok (.lastore, 1) := by decide +kernel
theorem dL_takenByBookings_10 : decode cL_takenByBookings 10 = .ok (.goto 7, 3) := by decide +kernel
theorem dL_takenByBookings_13 : decode cL_takenByBookings 13 = .ok (.astore 4, 2) := by decide +kernel
theorem dL_takenByBookings_15 : decode cL_takenByBookings 15 = .ok (.iconst 1, 1) := by decide +kernel
theorem dL_takenByBookings_16 : decode cL_takenByBookings 16 = .ok (.ireturn, 1) := by decide +kernel
theorem dL_takenByBookings_17 : decode cL_takenByBookings 17 = .ok (.iconst 0, 1) := by decide +kernel
theorem dL_takenByBookings_18 : decode cL_takenByBookings 18 = .ok (.ireturn, 1) := by decide +kernel
set_option maxRecDepth 20000 in
theorem ggL_extra_X5_extra : GoodIn wsL_extra wsX5_extra := goodIn_ca (goodIn_r _ [6, 7, 8, 5, 9, 10, 11, 12, 13, 14, 15, 16, 17, 18, 19, 20, 21, 22, 23, 24, 25, 26, 27, 28, 29, 30, 31, 32, 33, 34, 35, 36, 37, 38, 39] (by decide +kernel) (by decide +kernel)) (goodIn_sub (fun _ h => List.mem_cons_of_mem _ (List.mem_append_right _ h)) (by decide +kernel))
set_option maxRecDepth 20000 in
theorem gL_extra_X5_extra : GoodIn wsL_extra (wsV RL 47 RX5 yX5_extra wsX5_extra) := goodIn_app (goodIn_of _ (by decide +kernel)) ggL_extra_X5_extra
theorem dL_extra_0 : decode cL_extra 0 = .ok (.aload_n 2, 1) := by decide +kernel
theorem dL_extra_1 : decode cL_extra 1 = .ok (.iconst 0, 1) := by decide +kernel
theorem dL_extra_2 : decode cL_extra 2 = .ok (.aload_n 0, 1) := by decide +kernel
theorem dL_extra_3 : decode cL_extra 3 = .ok (.iload_n 1, 1) := by decide +kernel
theorem dL_extra_4 : decode cL_extra 4 = .ok (.invokevirtual 47, 3) := by decide +kernel
theorem dL_extra_7 : decode cL_extra 7 = .ok (.i2l, 1) := by decide +kernel
theorem dL_extra_8 : decode cL_extra 8 = .ok (.lastore, 1) := by decide +kernel
theorem dL_extra_9 : decode cL_extra 9 = .ok (.goto 6, 3) := by decide +kernel
theorem dL_extra_12 : decode cL_extra 12 = .ok (.astore_n 3, 1) := by decide +kernel
theorem dL_extra_13 : decode cL_extra 13 = .ok (.iconst 1, 1) := by decide +kernel
theorem dL_extra_14 : decode cL_extra 14 = .ok (.ireturn, 1) := by decide +kernel
theorem dL_extra_15 : decode cL_extra 15 = .ok (.iconst 0, 1) := by decide +kernel
theorem dL_extra_16 : decode cL_extra 16 = .ok (.ireturn, 1) := by decide +kernel
set_option maxRecDepth 20000 in
theorem ggL_clean_X5_clean : GoodIn wsL_clean wsX5_clean := goodIn_ca (goodIn_r _ [6, 7, 8, 9, 10, 5, 11, 12, 13, 14, 15, 16, 17, 18, 19, 20, 21, 22, 23, 24, 25, 26] (by decide +kernel) (by decide +kernel)) (goodIn_sub (fun _ h => List.mem_cons_of_mem _ (List.mem_append_right _ h)) (by decide +kernel))
set_option maxRecDepth 20000 in
theorem gL_clean_X5_clean : GoodIn wsL_clean (wsV RL 50 RX5 yX5_clean wsX5_clean) := goodIn_app (goodIn_of _ (by decide +kernel)) ggL_clean_X5_clean
theorem dL_clean_0 : decode cL_clean 0 = .ok (.aload_n 2, 1) := by decide +kernel
theorem dL_clean_1 : decode cL_clean 1 = .ok (.iconst 0, 1) := by decide +kernel
theorem dL_clean_2 : decode cL_clean 2 = .ok (.aload_n 0, 1) := by decide +kernel
theorem dL_clean_3 : decode cL_clean 3 = .ok (.iload_n 1, 1) := by decide +kernel
theorem dL_clean_4 : decode cL_clean 4 = .ok (.invokevirtual 50, 3) := by decide +kernel
theorem dL_clean_7 : decode cL_clean 7 = .ok (.i2l, 1) := by decide +kernel
theorem dL_clean_8 : decode cL_clean 8 = .ok (.lastore, 1) := by decide +kernel
theorem dL_clean_9 : decode cL_clean 9 = .ok (.goto 6, 3) := by decide +kernel
theorem dL_clean_12 : decode cL_clean 12 = .ok (.astore_n 3, 1) := by decide +kernel
theorem dL_clean_13 : decode cL_clean 13 = .ok (.iconst 1, 1) := by decide +kernel
theorem dL_clean_14 : decode cL_clean 14 = .ok (.ireturn, 1) := by decide +kernel
theorem dL_clean_15 : decode cL_clean 15 = .ok (.iconst 0, 1) := by decide +kernel
theorem dL_clean_16 : decode cL_clean 16 = .ok (.ireturn, 1) := by decide +kernel
set_option maxRecDepth 20000 in
theorem ggL_away_X5_away : GoodIn wsL_away wsX5_away := goodIn_ca (goodIn_r _ [6, 7, 8, 9, 5, 10, 11, 12, 13, 14, 15, 16, 17, 18, 19, 20, 21, 22, 23, 24, 25, 26, 27, 28, 29, 30, 31, 32, 33, 34] (by decide +kernel) (by decide +kernel)) (goodIn_sub (fun _ h => List.mem_cons_of_mem _ (List.mem_append_right _ h)) (by decide +kernel))
set_option maxRecDepth 20000 in
theorem gL_away_X5_away : GoodIn wsL_away (wsV RL 53 RX5 yX5_away wsX5_away) := goodIn_app (goodIn_of _ (by decide +kernel)) ggL_away_X5_away
theorem dL_away_0 : decode cL_away 0 = .ok (.aload_n 2, 1) := by decide +kernel
theorem dL_away_1 : decode cL_away 1 = .ok (.iconst 0, 1) := by decide +kernel
theorem dL_away_2 : decode cL_away 2 = .ok (.aload_n 0, 1) := by decide +kernel
theorem dL_away_3 : decode cL_away 3 = .ok (.iload_n 1, 1) := by decide +kernel
theorem dL_away_4 : decode cL_away 4 = .ok (.invokevirtual 53, 3) := by decide +kernel
theorem dL_away_7 : decode cL_away 7 = .ok (.i2l, 1) := by decide +kernel
theorem dL_away_8 : decode cL_away 8 = .ok (.lastore, 1) := by decide +kernel
theorem dL_away_9 : decode cL_away 9 = .ok (.goto 6, 3) := by decide +kernel
theorem dL_away_12 : decode cL_away 12 = .ok (.astore_n 3, 1) := by decide +kernel
theorem dL_away_13 : decode cL_away 13 = .ok (.iconst 1, 1) := by decide +kernel
theorem dL_away_14 : decode cL_away 14 = .ok (.ireturn, 1) := by decide +kernel
theorem dL_away_15 : decode cL_away 15 = .ok (.iconst 0, 1) := by decide +kernel
theorem dL_away_16 : decode cL_away 16 = .ok (.ireturn, 1) := by decide +kernel
set_option maxRecDepth 20000 in
theorem ggL_sleeps_X5_sleeps : GoodIn wsL_sleeps wsX5_sleeps := goodIn_ca (goodIn_r _ [6, 7, 8, 9, 10, 11, 5, 12, 13, 14, 15, 16, 17, 18, 19, 20, 21, 22, 23, 24, 25, 26, 27, 28] (by decide +kernel) (by decide +kernel)) (goodIn_sub (fun _ h => List.mem_cons_of_mem _ (List.mem_append_right _ h)) (by decide +kernel))
set_option maxRecDepth 20000 in
theorem gL_sleeps_X5_sleeps : GoodIn wsL_sleeps (wsV RL 56 RX5 yX5_sleeps wsX5_sleeps) := goodIn_app (goodIn_of _ (by decide +kernel)) ggL_sleeps_X5_sleeps
theorem dL_sleeps_0 : decode cL_sleeps 0 = .ok (.aload_n 2, 1) := by decide +kernel
theorem dL_sleeps_1 : decode cL_sleeps 1 = .ok (.iconst 0, 1) := by decide +kernel
theorem dL_sleeps_2 : decode cL_sleeps 2 = .ok (.aload_n 0, 1) := by decide +kernel
theorem dL_sleeps_3 : decode cL_sleeps 3 = .ok (.iload_n 1, 1) := by decide +kernel
theorem dL_sleeps_4 : decode cL_sleeps 4 = .ok (.invokevirtual 56, 3) := by decide +kernel
theorem dL_sleeps_7 : decode cL_sleeps 7 = .ok (.i2l, 1) := by decide +kernel
theorem dL_sleeps_8 : decode cL_sleeps 8 = .ok (.lastore, 1) := by decide +kernel
theorem dL_sleeps_9 : decode cL_sleeps 9 = .ok (.goto 6, 3) := by decide +kernel
theorem dL_sleeps_12 : decode cL_sleeps 12 = .ok (.astore_n 3, 1) := by decide +kernel
theorem dL_sleeps_13 : decode cL_sleeps 13 = .ok (.iconst 1, 1) := by decide +kernel
theorem dL_sleeps_14 : decode cL_sleeps 14 = .ok (.ireturn, 1) := by decide +kernel
theorem dL_sleeps_15 : decode cL_sleeps 15 = .ok (.iconst 0, 1) := by decide +kernel
theorem dL_sleeps_16 : decode cL_sleeps 16 = .ok (.ireturn, 1) := by decide +kernel
set_option maxRecDepth 20000 in
theorem ggL_points_X5_points : GoodIn wsL_points wsX5_points := goodIn_ca (goodIn_r _ [6, 7, 8, 9, 5, 10, 11, 12, 13, 14, 15, 16, 17, 18, 19, 20, 21, 22, 23, 24, 25, 26, 27, 28, 29, 30] (by decide +kernel) (by decide +kernel)) (goodIn_sub (fun _ h => List.mem_cons_of_mem _ (List.mem_append_right _ h)) (by decide +kernel))
set_option maxRecDepth 20000 in
theorem gL_points_X5_points : GoodIn wsL_points (wsV RL 59 RX5 yX5_points wsX5_points) := goodIn_app (goodIn_of _ (by decide +kernel)) ggL_points_X5_points
theorem dL_points_0 : decode cL_points 0 = .ok (.aload_n 2, 1) := by decide +kernel
theorem dL_points_1 : decode cL_points 1 = .ok (.iconst 0, 1) := by decide +kernel
theorem dL_points_2 : decode cL_points 2 = .ok (.aload_n 0, 1) := by decide +kernel
theorem dL_points_3 : decode cL_points 3 = .ok (.iload_n 1, 1) := by decide +kernel
theorem dL_points_4 : decode cL_points 4 = .ok (.invokevirtual 59, 3) := by decide +kernel
theorem dL_points_7 : decode cL_points 7 = .ok (.i2l, 1) := by decide +kernel
theorem dL_points_8 : decode cL_points 8 = .ok (.lastore, 1) := by decide +kernel
theorem dL_points_9 : decode cL_points 9 = .ok (.goto 6, 3) := by decide +kernel
theorem dL_points_12 : decode cL_points 12 = .ok (.astore_n 3, 1) := by decide +kernel
theorem dL_points_13 : decode cL_points 13 = .ok (.iconst 1, 1) := by decide +kernel
theorem dL_points_14 : decode cL_points 14 = .ok (.ireturn, 1) := by decide +kernel
theorem dL_points_15 : decode cL_points 15 = .ok (.iconst 0, 1) := by decide +kernel
theorem dL_points_16 : decode cL_points 16 = .ok (.ireturn, 1) := by decide +kernel
set_option maxRecDepth 20000 in
theorem ggL_owes_X5_owes : GoodIn wsL_owes wsX5_owes := goodIn_ca (goodIn_r _ [6, 7, 8, 9, 5, 10, 11, 12, 13, 14, 15, 16, 17, 18, 19, 20, 21, 22, 23, 24, 25, 26, 27, 28, 29, 30, 31, 32, 33] (by decide +kernel) (by decide +kernel)) (goodIn_sub (fun _ h => List.mem_cons_of_mem _ (List.mem_append_right _ h)) (by decide +kernel))
set_option maxRecDepth 20000 in
theorem gL_owes_X5_owes : GoodIn wsL_owes (wsV RL 62 RX5 yX5_owes wsX5_owes) := goodIn_app (goodIn_of _ (by decide +kernel)) ggL_owes_X5_owes
theorem dL_owes_0 : decode cL_owes 0 = .ok (.aload_n 3, 1) := by decide +kernel
theorem dL_owes_1 : decode cL_owes 1 = .ok (.iconst 0, 1) := by decide +kernel
theorem dL_owes_2 : decode cL_owes 2 = .ok (.aload_n 0, 1) := by decide +kernel
theorem dL_owes_3 : decode cL_owes 3 = .ok (.iload_n 1, 1) := by decide +kernel
theorem dL_owes_4 : decode cL_owes 4 = .ok (.iload_n 2, 1) := by decide +kernel
theorem dL_owes_5 : decode cL_owes 5 = .ok (.invokevirtual 62, 3) := by decide +kernel
theorem dL_owes_8 : decode cL_owes 8 = .ok (.i2l, 1) := by decide +kernel
theorem dL_owes_9 : decode cL_owes 9 = .ok (.lastore, 1) := by decide +kernel
theorem dL_owes_10 : decode cL_owes 10 = .ok (.goto 7, 3) := by decide +kernel
theorem dL_owes_13 : decode cL_owes 13 = .ok (.astore 4, 2) := by decide +kernel
theorem dL_owes_15 : decode cL_owes 15 = .ok (.iconst 1, 1) := by decide +kernel
theorem dL_owes_16 : decode cL_owes 16 = .ok (.ireturn, 1) := by decide +kernel
theorem dL_owes_17 : decode cL_owes 17 = .ok (.iconst 0, 1) := by decide +kernel
theorem dL_owes_18 : decode cL_owes 18 = .ok (.ireturn, 1) := by decide +kernel
set_option maxRecDepth 20000 in
theorem ggL_purse_X5_purse : GoodIn wsL_purse wsX5_purse := goodIn_ca (goodIn_r _ [6, 7, 8, 9, 10, 5, 11, 12, 13, 14, 15, 16, 17, 18, 19, 20, 21] (by decide +kernel) (by decide +kernel)) (goodIn_sub (fun _ h => List.mem_cons_of_mem _ (List.mem_append_right _ h)) (by decide +kernel))
set_option maxRecDepth 20000 in
theorem gL_purse_X5_purse : GoodIn wsL_purse (wsV RL 65 RX5 yX5_purse wsX5_purse) := goodIn_app (goodIn_of _ (by decide +kernel)) ggL_purse_X5_purse
theorem dL_purse_0 : decode cL_purse 0 = .ok (.aload_n 2, 1) := by decide +kernel
theorem dL_purse_1 : decode cL_purse 1 = .ok (.iconst 0, 1) := by decide +kernel
theorem dL_purse_2 : decode cL_purse 2 = .ok (.aload_n 0, 1) := by decide +kernel
theorem dL_purse_3 : decode cL_purse 3 = .ok (.iload_n 1, 1) := by decide +kernel
theorem dL_purse_4 : decode cL_purse 4 = .ok (.invokevirtual 65, 3) := by decide +kernel
theorem dL_purse_7 : decode cL_purse 7 = .ok (.i2l, 1) := by decide +kernel
theorem dL_purse_8 : decode cL_purse 8 = .ok (.lastore, 1) := by decide +kernel
theorem dL_purse_9 : decode cL_purse 9 = .ok (.goto 6, 3) := by decide +kernel
theorem dL_purse_12 : decode cL_purse 12 = .ok (.astore_n 3, 1) := by decide +kernel
theorem dL_purse_13 : decode cL_purse 13 = .ok (.iconst 1, 1) := by decide +kernel
theorem dL_purse_14 : decode cL_purse 14 = .ok (.ireturn, 1) := by decide +kernel
theorem dL_purse_15 : decode cL_purse 15 = .ok (.iconst 0, 1) := by decide +kernel
theorem dL_purse_16 : decode cL_purse 16 = .ok (.ireturn, 1) := by decide +kernel
set_option maxRecDepth 20000 in
theorem ggL_law_X5_init : GoodIn wsL_law wsX5_init := goodIn_r _ [9, 10, 11, 12, 13, 14, 15, 16, 17, 18, 19, 20, 21, 22, 23, 24, 25, 26, 27, 28, 29, 30, 31, 32, 33, 34, 35, 36, 37, 38, 39, 40, 41, 42, 43, 44, 45, 46, 47, 48, 49, 50, 51, 52, 53, 54, 55, 56, 57, 58, 59, 60, 61, 62, 63, 64, 65, 66, 67, 68, 69, 70, 71, 72, 73, 74, 75, 76, 77, 78, 598, 599, 600, 568, 569, 570, 571, 572, 573, 601, 602, 603, 604, 605, 606, 607, 608, 609, 610, 611, 612, 613, 614, 615, 616, 617, 618, 619, 620] (by decide +kernel) (by decide +kernel)
set_option maxRecDepth 20000 in
theorem gL_law_X5_init : GoodIn wsL_law (wsX5_init) := ggL_law_X5_init
set_option maxRecDepth 20000 in
theorem ggL_law_X6_init : GoodIn wsL_law wsX6_init := goodIn_r _ [81, 82, 11, 12, 38, 83, 84, 85, 86, 87, 88, 89, 90, 91, 92, 93, 94, 95, 61, 96, 97, 98, 99, 100, 574, 575, 576, 577, 578, 579, 580, 581, 582, 583, 584, 585, 586, 587, 588, 589, 590, 591, 592, 593, 594, 595, 596, 597] (by decide +kernel) (by decide +kernel)
set_option maxRecDepth 20000 in
theorem gL_law_X6_init : GoodIn wsL_law (wsX6_init) := ggL_law_X6_init
set_option maxRecDepth 20000 in
theorem ggL_law_L_setRooms : GoodIn wsL_law wsL_setRooms := goodIn_ca (goodIn_ca (goodIn_r _ [104, 105, 106, 107, 108, 109, 2, 110, 16, 111, 112, 113, 114, 115, 116, 117, 118, 119, 120, 121, 122, 123, 124, 125, 126, 15, 127, 39, 40, 128, 129, 130, 568, 569, 570, 571, 572, 573, 598, 599, 600] (by decide +kernel) (by decide +kernel)) (goodIn_sub (fun _ h => List.mem_append_left _ (List.mem_append_left _ (List.mem_append_right _ h))) (by decide +kernel))) (goodIn_sub (fun _ h => List.mem_append_left _ (List.mem_append_right _ h)) (by decide +kernel))
set_option maxRecDepth 20000 in
theorem gL_law_L_setRooms : GoodIn wsL_law (va_wsS RL 72 yL_setRooms wsL_setRooms) := goodIn_app (goodIn_of _ (by decide +kernel)) ggL_law_L_setRooms
set_option maxRecDepth 20000 in
theorem ggL_law_X6_setRooms : GoodIn wsL_law wsX6_setRooms := goodIn_r _ [134, 83, 84, 135, 136, 5, 137, 138, 139, 140, 141, 142, 143, 144, 145, 146, 147, 148, 574, 575, 576, 577, 578, 579, 580, 581, 582, 583, 584, 585, 586, 587, 588, 589, 590, 591, 592, 593, 594, 595, 596, 597] (by decide +kernel) (by decide +kernel)
set_option maxRecDepth 20000 in
theorem gL_law_X6_setRooms : GoodIn wsL_law (wsV RL 77 RX6 yX6_setRooms wsX6_setRooms) := goodIn_app (goodIn_of _ (by decide +kernel)) ggL_law_X6_setRooms
set_option maxRecDepth 20000 in
theorem ggL_law_X6_thrown : GoodIn wsL_law wsX6_thrown := goodIn_r _ [152, 148, 574, 575, 576, 577, 578, 579, 580, 581, 582, 583, 584, 585, 586, 587, 588, 589, 590, 591, 592, 593, 594, 595, 596, 597] (by decide +kernel) (by decide +kernel)
set_option maxRecDepth 20000 in
theorem gL_law_X6_thrown : GoodIn wsL_law (wsV RL 78 RX6 yX6_thrown wsX6_thrown) := goodIn_app (goodIn_of _ (by decide +kernel)) ggL_law_X6_thrown
set_option maxRecDepth 20000 in
theorem ggL_law_L_buyLinen : GoodIn wsL_law wsL_buyLinen := goodIn_ca (goodIn_ca (goodIn_r _ [155, 105, 106, 156, 157, 158, 2, 159, 20, 111, 112, 113, 114, 115, 119, 120, 121, 122, 123, 160, 161, 162, 19, 163, 46, 568, 569, 570, 571, 572, 573, 601, 602, 603, 604, 605, 606, 607] (by decide +kernel) (by decide +kernel)) (goodIn_sub (fun _ h => List.mem_append_left _ (List.mem_append_left _ (List.mem_append_right _ h))) (by decide +kernel))) (goodIn_sub (fun _ h => List.mem_append_left _ (List.mem_append_right _ h)) (by decide +kernel))
set_option maxRecDepth 20000 in
theorem gL_law_L_buyLinen : GoodIn wsL_law (va_wsS RL 81 yL_buyLinen wsL_buyLinen) := goodIn_app (goodIn_of _ (by decide +kernel)) ggL_law_L_buyLinen
set_option maxRecDepth 20000 in
theorem ggL_law_X6_buyLinen : GoodIn wsL_law wsX6_buyLinen := goodIn_r _ [167, 86, 138, 139, 5, 140, 141, 142, 143, 144, 145, 146, 147, 148, 574, 575, 576, 577, 578, 579, 580, 581, 582, 583, 584, 585, 586, 587, 588, 589, 590, 591, 592, 593, 594, 595, 596, 597] (by decide +kernel) (by decide +kernel)
set_option maxRecDepth 20000 in
theorem gL_law_X6_buyLinen : GoodIn wsL_law (wsV RL 84 RX6 yX6_buyLinen wsX6_buyLinen) := goodIn_app (goodIn_of _ (by decide +kernel)) ggL_law_X6_buyLinen
set_option maxRecDepth 20000 in
theorem ggL_law_X5_setBroken : GoodIn wsL_law wsX5_setBroken := goodIn_r _ [171, 20, 172, 173, 174, 19, 175, 51, 568, 569, 570, 571, 572, 573, 601, 602, 603, 604, 605, 606, 607] (by decide +kernel) (by decide +kernel)
set_option maxRecDepth 20000 in
theorem gL_law_X5_setBroken : GoodIn wsL_law (wsV RL 85 RX5 yX5_setBroken wsX5_setBroken) := goodIn_app (goodIn_of _ (by decide +kernel)) ggL_law_X5_setBroken
set_option maxRecDepth 20000 in
theorem ggL_law_X6_setBroken : GoodIn wsL_law wsX6_setBroken := goodIn_r _ [179, 148, 180, 574, 575, 576, 577, 578, 579, 580, 581, 582, 583, 584, 585, 586, 587, 588, 589, 590, 591, 592, 593, 594, 595, 596, 597] (by decide +kernel) (by decide +kernel)
set_option maxRecDepth 20000 in
theorem gL_law_X6_setBroken : GoodIn wsL_law (wsV RL 89 RX6 yX6_setBroken wsX6_setBroken) := goodIn_app (goodIn_of _ (by decide +kernel)) ggL_law_X6_setBroken
set_option maxRecDepth 20000 in
theorem ggL_law_L_book : GoodIn wsL_law wsL_book := goodIn_ca (goodIn_ca (goodIn_ca (goodIn_r _ [183, 105, 106, 184, 185, 186, 187, 2, 188, 189, 190, 33, 24, 191, 192, 193, 114, 115, 111, 112, 113, 116, 117, 118, 119, 120, 121, 122, 123, 194, 195, 196, 23, 197, 64, 198, 199, 200, 201, 16, 202, 203, 204, 205, 58, 59, 60, 206, 207, 208, 15, 209, 39, 128, 129, 130, 210, 211, 212, 213, 214, 215, 216, 217, 62, 218, 219, 220, 221, 57, 63, 568, 569, 570, 571, 572, 573, 608, 609, 610, 611, 612, 613, 614, 598, 599, 600] (by decide +kernel) (by decide +kernel)) (goodIn_sub (fun _ h => List.mem_append_right _ h) (by decide +kernel))) (goodIn_sub (fun _ h => List.mem_append_left _ (List.mem_append_left _ (List.mem_append_right _ h))) (by decide +kernel))) (goodIn_sub (fun _ h => List.mem_append_left _ (List.mem_append_right _ h)) (by decide +kernel))
set_option maxRecDepth 20000 in
theorem gL_law_L_book : GoodIn wsL_law (va_wsS RL 90 yL_book wsL_book) := goodIn_app (goodIn_of _ (by decide +kernel)) ggL_law_L_book
set_option maxRecDepth 20000 in
theorem ggL_law_X6_book : GoodIn wsL_law wsX6_book := goodIn_r _ [225, 226, 227, 93, 94, 95, 83, 92, 97, 228, 229, 5, 230, 141, 142, 143, 135, 136, 137, 138, 139, 140, 231, 232, 233, 234, 91, 144, 145, 146, 147, 148, 574, 575, 576, 577, 578, 579, 580, 581, 582, 583, 584, 585, 586, 587, 588, 589, 590, 591, 592, 593, 594, 595, 596, 597] (by decide +kernel) (by decide +kernel)
set_option maxRecDepth 20000 in
theorem gL_law_X6_book : GoodIn wsL_law (wsV RL 92 RX6 yX6_book wsX6_book) := goodIn_app (goodIn_of _ (by decide +kernel)) ggL_law_X6_book
set_option maxRecDepth 20000 in
theorem ggL_law_L_come : GoodIn wsL_law wsL_come := goodIn_ca (goodIn_ca (goodIn_r _ [237, 105, 184, 238, 239, 240, 2, 241, 189, 190, 24, 242, 33, 243, 244, 245, 246, 247, 248, 249, 114, 115, 250, 251, 252, 253, 254, 16, 20, 255, 256, 257, 258, 259, 260, 261, 262, 263, 264, 265, 266, 267, 15, 268, 269, 270, 271, 272, 207, 208, 209, 39, 128, 129, 130, 273, 274, 275, 276, 41, 277, 278, 279, 19, 280, 46, 281, 282, 283, 23, 284, 62, 63, 285, 286, 287, 288, 32, 28, 289, 290, 291, 292, 293, 40, 294, 295, 296, 31, 297, 77, 298, 299, 300, 301, 78, 302, 303, 304, 305, 306, 307, 308, 309, 310, 311, 312, 52, 313, 314, 315, 316, 47, 317, 318, 319, 320, 321, 322, 323, 27, 324, 72, 69, 70, 71, 568, 569, 570, 571, 572, 573, 608, 609, 610, 611, 612, 613, 614, 598, 599, 600, 601, 602, 603, 604, 605, 606, 607, 619, 620, 615, 616, 617, 618] (by decide +kernel) (by decide +kernel)) (goodIn_sub (fun _ h => List.mem_append_right _ h) (by decide +kernel))) (goodIn_sub (fun _ h => List.mem_append_left _ (List.mem_append_left _ (List.mem_append_right _ h))) (by decide +kernel))
set_option maxRecDepth 20000 in
theorem gL_law_L_come : GoodIn wsL_law (va_wsS RL 93 yL_come wsL_come) := goodIn_app (goodIn_of _ (by decide +kernel)) ggL_law_L_come
set_option maxRecDepth 20000 in
theorem ggL_law_X6_come : GoodIn wsL_law wsX6_come := goodIn_r _ [328, 227, 95, 226, 96, 93, 94, 97, 85, 88, 84, 89, 98, 329, 92, 99, 100, 141, 142, 5, 143, 144, 145, 146, 147, 148, 330, 331, 332, 333, 86, 334, 335, 336, 337, 338, 339, 340, 341, 83, 342, 343, 344, 345, 346, 347, 348, 349, 87, 574, 575, 576, 577, 578, 579, 580, 581, 582, 583, 584, 585, 586, 587, 588, 589, 590, 591, 592, 593, 594, 595, 596, 597] (by decide +kernel) (by decide +kernel)
set_option maxRecDepth 20000 in
theorem gL_law_X6_come : GoodIn wsL_law (wsV RL 96 RX6 yX6_come wsX6_come) := goodIn_app (goodIn_of _ (by decide +kernel)) ggL_law_X6_come
set_option maxRecDepth 20000 in
theorem ggL_law_L_burn : GoodIn wsL_law wsL_burn := goodIn_ca (goodIn_ca (goodIn_ca (goodIn_r _ [352, 105, 106, 184, 353, 354, 355, 2, 356, 189, 190, 28, 191, 192, 193, 114, 115, 111, 112, 113, 119, 120, 121, 122, 123, 357, 358, 359, 27, 360, 72, 69, 71, 361, 362, 363, 364, 365, 366, 32, 367, 368, 369, 370, 371, 263, 260, 264, 298, 299, 300, 31, 301, 78, 302, 303, 304, 568, 569, 570, 571, 572, 573, 615, 616, 617, 618, 619, 620] (by decide +kernel) (by decide +kernel)) (goodIn_sub (fun _ h => List.mem_append_right _ h) (by decide +kernel))) (goodIn_sub (fun _ h => List.mem_append_left _ (List.mem_append_left _ (List.mem_append_right _ h))) (by decide +kernel))) (goodIn_sub (fun _ h => List.mem_append_left _ (List.mem_append_right _ h)) (by decide +kernel))
set_option maxRecDepth 20000 in
theorem gL_law_L_burn : GoodIn wsL_law (va_wsS RL 97 yL_burn wsL_burn) := goodIn_app (goodIn_of _ (by decide +kernel)) ggL_law_L_burn
set_option maxRecDepth 20000 in
theorem ggL_law_X6_burn : GoodIn wsL_law wsX6_burn := goodIn_r _ [375, 329, 98, 100, 89, 99, 228, 229, 5, 230, 141, 142, 143, 138, 139, 140, 376, 377, 378, 379, 144, 145, 146, 147, 148, 574, 575, 576, 577, 578, 579, 580, 581, 582, 583, 584, 585, 586, 587, 588, 589, 590, 591, 592, 593, 594, 595, 596, 597] (by decide +kernel) (by decide +kernel)
set_option maxRecDepth 20000 in
theorem gL_law_X6_burn : GoodIn wsL_law (wsV RL 100 RX6 yX6_burn wsX6_burn) := goodIn_app (goodIn_of _ (by decide +kernel)) ggL_law_X6_burn
set_option maxRecDepth 20000 in
theorem ggL_law_L_night : GoodIn wsL_law wsL_night := goodIn_ca (goodIn_r _ [382, 184, 383, 384, 385, 2, 386, 189, 190, 33, 24, 16, 20, 387, 388, 389, 23, 390, 64, 60, 62, 391, 392, 393, 15, 394, 41, 395, 396, 397, 19, 398, 50, 49, 48, 47, 51, 46, 52, 568, 569, 570, 571, 572, 573, 608, 609, 610, 611, 612, 613, 614, 598, 599, 600, 601, 602, 603, 604, 605, 606, 607] (by decide +kernel) (by decide +kernel)) (goodIn_sub (fun _ h => List.mem_append_right _ h) (by decide +kernel))
set_option maxRecDepth 20000 in
theorem gL_law_L_night : GoodIn wsL_law (va_wsS RL 101 yL_night wsL_night) := goodIn_app (goodIn_of _ (by decide +kernel)) ggL_law_L_night
set_option maxRecDepth 20000 in
theorem ggL_law_X6_night : GoodIn wsL_law wsX6_night := goodIn_r _ [402, 226, 227, 95, 96, 91, 93, 90, 87, 180, 86, 85, 349, 144, 145, 146, 5, 147, 148, 574, 575, 576, 577, 578, 579, 580, 581, 582, 583, 584, 585, 586, 587, 588, 589, 590, 591, 592, 593, 594, 595, 596, 597] (by decide +kernel) (by decide +kernel)
set_option maxRecDepth 20000 in
theorem gL_law_X6_night : GoodIn wsL_law (wsV RL 104 RX6 yX6_night wsX6_night) := goodIn_app (goodIn_of _ (by decide +kernel)) ggL_law_X6_night
set_option maxRecDepth 20000 in
theorem ggL_law_X5_settle : GoodIn wsL_law wsX5_settle := goodIn_r _ [406, 32, 407, 408, 409, 31, 410, 411, 412, 413, 414, 77, 415, 416, 417, 418, 78, 419, 270, 260, 271, 302, 303, 304, 420, 299, 300, 301, 568, 569, 570, 571, 572, 573, 619, 620] (by decide +kernel) (by decide +kernel)
set_option maxRecDepth 20000 in
theorem gL_law_X5_settle : GoodIn wsL_law (wsV RL 105 RX5 yX5_settle wsX5_settle) := goodIn_app (goodIn_of _ (by decide +kernel)) ggL_law_X5_settle
set_option maxRecDepth 20000 in
theorem ggL_law_X6_settle : GoodIn wsL_law wsX6_settle := goodIn_r _ [424, 148, 88, 89, 425, 426, 427, 5, 428, 574, 575, 576, 577, 578, 579, 580, 581, 582, 583, 584, 585, 586, 587, 588, 589, 590, 591, 592, 593, 594, 595, 596, 597] (by decide +kernel) (by decide +kernel)
set_option maxRecDepth 20000 in
theorem gL_law_X6_settle : GoodIn wsL_law (wsV RL 108 RX6 yX6_settle wsX6_settle) := goodIn_app (goodIn_of _ (by decide +kernel)) ggL_law_X6_settle
set_option maxRecDepth 20000 in
theorem ggL_law_X5_today : GoodIn wsL_law wsX5_today := goodIn_r _ [432, 33, 568, 569, 570, 571, 572, 573] (by decide +kernel) (by decide +kernel)
set_option maxRecDepth 20000 in
theorem gL_law_X5_today : GoodIn wsL_law (wsV RL 109 RX5 yX5_today wsX5_today) := goodIn_app (goodIn_of _ (by decide +kernel)) ggL_law_X5_today
set_option maxRecDepth 20000 in
theorem ggL_law_X6_today : GoodIn wsL_law wsX6_today := goodIn_r _ [436, 148, 226, 574, 575, 576, 577, 578, 579, 580, 581, 582, 583, 584, 585, 586, 587, 588, 589, 590, 591, 592, 593, 594, 595, 596, 597] (by decide +kernel) (by decide +kernel)
set_option maxRecDepth 20000 in
theorem gL_law_X6_today : GoodIn wsL_law (wsV RL 112 RX6 yX6_today wsX6_today) := goodIn_app (goodIn_of _ (by decide +kernel)) ggL_law_X6_today
set_option maxRecDepth 20000 in
theorem ggL_law_X5_bookings : GoodIn wsL_law wsX5_bookings := goodIn_r _ [440, 24, 250, 568, 569, 570, 571, 572, 573, 608, 609, 610, 611, 612, 613, 614] (by decide +kernel) (by decide +kernel)
set_option maxRecDepth 20000 in
theorem gL_law_X5_bookings : GoodIn wsL_law (wsV RL 113 RX5 yX5_bookings wsX5_bookings) := goodIn_app (goodIn_of _ (by decide +kernel)) ggL_law_X5_bookings
set_option maxRecDepth 20000 in
theorem ggL_law_X6_bookings : GoodIn wsL_law wsX6_bookings := goodIn_r _ [444, 148, 227, 574, 575, 576, 577, 578, 579, 580, 581, 582, 583, 584, 585, 586, 587, 588, 589, 590, 591, 592, 593, 594, 595, 596, 597] (by decide +kernel) (by decide +kernel)
set_option maxRecDepth 20000 in
theorem gL_law_X6_bookings : GoodIn wsL_law (wsV RL 116 RX6 yX6_bookings wsX6_bookings) := goodIn_app (goodIn_of _ (by decide +kernel)) ggL_law_X6_bookings
set_option maxRecDepth 20000 in
theorem ggL_law_L_free : GoodIn wsL_law wsL_free := goodIn_ca (goodIn_r _ [447, 105, 448, 449, 450, 2, 451, 16, 111, 112, 113, 114, 115, 116, 117, 118, 265, 266, 267, 15, 268, 269, 270, 260, 271, 272, 207, 208, 209, 39, 128, 129, 130, 273, 274, 275, 276, 41, 568, 569, 570, 571, 572, 573, 598, 599, 600] (by decide +kernel) (by decide +kernel)) (goodIn_sub (fun _ h => List.mem_append_left _ (List.mem_append_left _ (List.mem_append_right _ h))) (by decide +kernel))
set_option maxRecDepth 20000 in
theorem gL_law_L_free : GoodIn wsL_law (va_wsS RL 117 yL_free wsL_free) := goodIn_app (goodIn_of _ (by decide +kernel)) ggL_law_L_free
set_option maxRecDepth 20000 in
theorem ggL_law_X6_free : GoodIn wsL_law wsX6_free := goodIn_r _ [455, 83, 85, 135, 136, 5, 137, 138, 139, 140, 141, 142, 143, 144, 145, 146, 147, 148, 574, 575, 576, 577, 578, 579, 580, 581, 582, 583, 584, 585, 586, 587, 588, 589, 590, 591, 592, 593, 594, 595, 596, 597] (by decide +kernel) (by decide +kernel)
set_option maxRecDepth 20000 in
theorem gL_law_X6_free : GoodIn wsL_law (wsV RL 119 RX6 yX6_free wsX6_free) := goodIn_app (goodIn_of _ (by decide +kernel)) ggL_law_X6_free
set_option maxRecDepth 20000 in
theorem ggL_law_L_taken : GoodIn wsL_law wsL_taken := goodIn_ca (goodIn_r _ [458, 105, 459, 460, 461, 2, 462, 16, 111, 112, 113, 114, 115, 116, 117, 118, 463, 274, 275, 15, 276, 41, 128, 129, 130, 568, 569, 570, 571, 572, 573, 598, 599, 600] (by decide +kernel) (by decide +kernel)) (goodIn_sub (fun _ h => List.mem_append_left _ (List.mem_append_left _ (List.mem_append_right _ h))) (by decide +kernel))
set_option maxRecDepth 20000 in
theorem gL_law_L_taken : GoodIn wsL_law (va_wsS RL 120 yL_taken wsL_taken) := goodIn_app (goodIn_of _ (by decide +kernel)) ggL_law_L_taken
set_option maxRecDepth 20000 in
theorem ggL_law_X6_taken : GoodIn wsL_law wsX6_taken := goodIn_r _ [467, 85, 135, 136, 5, 137, 138, 139, 140, 141, 142, 143, 144, 145, 146, 147, 148, 574, 575, 576, 577, 578, 579, 580, 581, 582, 583, 584, 585, 586, 587, 588, 589, 590, 591, 592, 593, 594, 595, 596, 597] (by decide +kernel) (by decide +kernel)
set_option maxRecDepth 20000 in
theorem gL_law_X6_taken : GoodIn wsL_law (wsV RL 122 RX6 yX6_taken wsX6_taken) := goodIn_app (goodIn_of _ (by decide +kernel)) ggL_law_X6_taken
set_option maxRecDepth 20000 in
theorem ggL_law_L_takenByBookings : GoodIn wsL_law wsL_takenByBookings := goodIn_ca (goodIn_r _ [470, 105, 471, 472, 473, 2, 474, 24, 33, 111, 112, 113, 114, 115, 116, 117, 118, 475, 476, 477, 23, 478, 64, 63, 59, 60, 568, 569, 570, 571, 572, 573, 608, 609, 610, 611, 612, 613, 614] (by decide +kernel) (by decide +kernel)) (goodIn_sub (fun _ h => List.mem_append_left _ (List.mem_append_left _ (List.mem_append_right _ h))) (by decide +kernel))
set_option maxRecDepth 20000 in
theorem gL_law_L_takenByBookings : GoodIn wsL_law (va_wsS RL 123 yL_takenByBookings wsL_takenByBookings) := goodIn_app (goodIn_of _ (by decide +kernel)) ggL_law_L_takenByBookings
set_option maxRecDepth 20000 in
theorem ggL_law_X6_takenByBookings : GoodIn wsL_law wsX6_takenByBookings := goodIn_r _ [482, 227, 95, 226, 97, 94, 135, 136, 5, 137, 138, 139, 140, 141, 142, 143, 144, 145, 146, 147, 148, 574, 575, 576, 577, 578, 579, 580, 581, 582, 583, 584, 585, 586, 587, 588, 589, 590, 591, 592, 593, 594, 595, 596, 597] (by decide +kernel) (by decide +kernel)
set_option maxRecDepth 20000 in
theorem gL_law_X6_takenByBookings : GoodIn wsL_law (wsV RL 125 RX6 yX6_takenByBookings wsX6_takenByBookings) := goodIn_app (goodIn_of _ (by decide +kernel)) ggL_law_X6_takenByBookings
set_option maxRecDepth 20000 in
theorem ggL_law_L_extra : GoodIn wsL_law wsL_extra := goodIn_ca (goodIn_r _ [485, 105, 486, 487, 488, 2, 489, 111, 112, 113, 114, 115, 210, 211, 212, 213, 24, 33, 214, 215, 216, 23, 217, 64, 58, 60, 62, 568, 569, 570, 571, 572, 573, 608, 609, 610, 611, 612, 613, 614] (by decide +kernel) (by decide +kernel)) (goodIn_sub (fun _ h => List.mem_append_left _ (List.mem_append_left _ (List.mem_append_right _ h))) (by decide +kernel))
set_option maxRecDepth 20000 in
theorem gL_law_L_extra : GoodIn wsL_law (va_wsS RL 126 yL_extra wsL_extra) := goodIn_app (goodIn_of _ (by decide +kernel)) ggL_law_L_extra
set_option maxRecDepth 20000 in
theorem ggL_law_X6_extra : GoodIn wsL_law wsX6_extra := goodIn_r _ [493, 138, 139, 5, 140, 141, 142, 143, 144, 145, 146, 147, 148, 231, 232, 233, 234, 226, 91, 574, 575, 576, 577, 578, 579, 580, 581, 582, 583, 584, 585, 586, 587, 588, 589, 590, 591, 592, 593, 594, 595, 596, 597] (by decide +kernel) (by decide +kernel)
set_option maxRecDepth 20000 in
theorem gL_law_X6_extra : GoodIn wsL_law (wsV RL 128 RX6 yX6_extra wsX6_extra) := goodIn_app (goodIn_of _ (by decide +kernel)) ggL_law_X6_extra
set_option maxRecDepth 20000 in
theorem ggL_law_L_clean : GoodIn wsL_law wsL_clean := goodIn_ca (goodIn_r _ [496, 105, 497, 498, 499, 2, 500, 20, 501, 111, 112, 113, 114, 115, 568, 569, 570, 571, 572, 573, 601, 602, 603, 604, 605, 606, 607] (by decide +kernel) (by decide +kernel)) (goodIn_sub (fun _ h => List.mem_append_left _ (List.mem_append_left _ (List.mem_append_right _ h))) (by decide +kernel))
set_option maxRecDepth 20000 in
theorem gL_law_L_clean : GoodIn wsL_law (va_wsS RL 129 yL_clean wsL_clean) := goodIn_app (goodIn_of _ (by decide +kernel)) ggL_law_L_clean
set_option maxRecDepth 20000 in
theorem ggL_law_X6_clean : GoodIn wsL_law wsX6_clean := goodIn_r _ [505, 86, 138, 139, 5, 140, 141, 142, 143, 144, 145, 146, 147, 148, 574, 575, 576, 577, 578, 579, 580, 581, 582, 583, 584, 585, 586, 587, 588, 589, 590, 591, 592, 593, 594, 595, 596, 597] (by decide +kernel) (by decide +kernel)
set_option maxRecDepth 20000 in
theorem gL_law_X6_clean : GoodIn wsL_law (wsV RL 131 RX6 yX6_clean wsX6_clean) := goodIn_app (goodIn_of _ (by decide +kernel)) ggL_law_X6_clean
set_option maxRecDepth 20000 in
theorem ggL_law_L_away : GoodIn wsL_law wsL_away := goodIn_ca (goodIn_r _ [508, 105, 509, 510, 511, 2, 512, 20, 111, 112, 113, 114, 115, 513, 514, 515, 19, 516, 47, 48, 49, 50, 568, 569, 570, 571, 572, 573, 601, 602, 603, 604, 605, 606, 607] (by decide +kernel) (by decide +kernel)) (goodIn_sub (fun _ h => List.mem_append_left _ (List.mem_append_left _ (List.mem_append_right _ h))) (by decide +kernel))
set_option maxRecDepth 20000 in
theorem gL_law_L_away : GoodIn wsL_law (va_wsS RL 132 yL_away wsL_away) := goodIn_app (goodIn_of _ (by decide +kernel)) ggL_law_L_away
set_option maxRecDepth 20000 in
theorem ggL_law_X6_away : GoodIn wsL_law wsX6_away := goodIn_r _ [520, 87, 226, 90, 138, 139, 5, 140, 141, 142, 143, 144, 145, 146, 147, 148, 574, 575, 576, 577, 578, 579, 580, 581, 582, 583, 584, 585, 586, 587, 588, 589, 590, 591, 592, 593, 594, 595, 596, 597] (by decide +kernel) (by decide +kernel)
set_option maxRecDepth 20000 in
theorem gL_law_X6_away : GoodIn wsL_law (wsV RL 134 RX6 yX6_away wsX6_away) := goodIn_app (goodIn_of _ (by decide +kernel)) ggL_law_X6_away
set_option maxRecDepth 20000 in
theorem ggL_law_L_sleeps : GoodIn wsL_law wsL_sleeps := goodIn_ca (goodIn_r _ [523, 105, 524, 525, 526, 2, 527, 24, 528, 246, 247, 248, 249, 114, 115, 250, 568, 569, 570, 571, 572, 573, 608, 609, 610, 611, 612, 613, 614] (by decide +kernel) (by decide +kernel)) (goodIn_sub (fun _ h => List.mem_append_left _ (List.mem_append_left _ (List.mem_append_right _ h))) (by decide +kernel))
set_option maxRecDepth 20000 in
theorem gL_law_L_sleeps : GoodIn wsL_law (va_wsS RL 135 yL_sleeps wsL_sleeps) := goodIn_app (goodIn_of _ (by decide +kernel)) ggL_law_L_sleeps
set_option maxRecDepth 20000 in
theorem ggL_law_X6_sleeps : GoodIn wsL_law wsX6_sleeps := goodIn_r _ [532, 227, 97, 141, 142, 5, 143, 144, 145, 146, 147, 148, 574, 575, 576, 577, 578, 579, 580, 581, 582, 583, 584, 585, 586, 587, 588, 589, 590, 591, 592, 593, 594, 595, 596, 597] (by decide +kernel) (by decide +kernel)
set_option maxRecDepth 20000 in
theorem gL_law_X6_sleeps : GoodIn wsL_law (wsV RL 137 RX6 yX6_sleeps wsX6_sleeps) := goodIn_app (goodIn_of _ (by decide +kernel)) ggL_law_X6_sleeps
set_option maxRecDepth 20000 in
theorem ggL_law_L_points : GoodIn wsL_law wsL_points := goodIn_ca (goodIn_r _ [535, 105, 536, 537, 538, 2, 539, 28, 191, 192, 193, 114, 115, 357, 358, 359, 27, 360, 72, 69, 71, 568, 569, 570, 571, 572, 573, 615, 616, 617, 618] (by decide +kernel) (by decide +kernel)) (goodIn_sub (fun _ h => List.mem_append_left _ (List.mem_append_left _ (List.mem_append_right _ h))) (by decide +kernel))
set_option maxRecDepth 20000 in
theorem gL_law_L_points : GoodIn wsL_law (va_wsS RL 138 yL_points wsL_points) := goodIn_app (goodIn_of _ (by decide +kernel)) ggL_law_L_points
set_option maxRecDepth 20000 in
theorem ggL_law_X6_points : GoodIn wsL_law wsX6_points := goodIn_r _ [543, 228, 229, 5, 230, 141, 142, 143, 144, 145, 146, 147, 148, 376, 377, 378, 379, 329, 98, 100, 574, 575, 576, 577, 578, 579, 580, 581, 582, 583, 584, 585, 586, 587, 588, 589, 590, 591, 592, 593, 594, 595, 596, 597] (by decide +kernel) (by decide +kernel)
set_option maxRecDepth 20000 in
theorem gL_law_X6_points : GoodIn wsL_law (wsV RL 140 RX6 yX6_points wsX6_points) := goodIn_app (goodIn_of _ (by decide +kernel)) ggL_law_X6_points
set_option maxRecDepth 20000 in
theorem ggL_law_L_owes : GoodIn wsL_law wsL_owes := goodIn_ca (goodIn_r _ [546, 105, 547, 548, 549, 2, 550, 32, 111, 112, 113, 114, 115, 551, 416, 417, 31, 418, 78, 419, 270, 260, 271, 302, 303, 304, 568, 569, 570, 571, 572, 573, 619, 620] (by decide +kernel) (by decide +kernel)) (goodIn_sub (fun _ h => List.mem_append_left _ (List.mem_append_left _ (List.mem_append_right _ h))) (by decide +kernel))
set_option maxRecDepth 20000 in
theorem gL_law_L_owes : GoodIn wsL_law (va_wsS RL 141 yL_owes wsL_owes) := goodIn_app (goodIn_of _ (by decide +kernel)) ggL_law_L_owes
set_option maxRecDepth 20000 in
theorem ggL_law_X6_owes : GoodIn wsL_law wsX6_owes := goodIn_r _ [555, 138, 139, 5, 140, 141, 142, 143, 144, 145, 146, 147, 148, 425, 426, 427, 428, 89, 574, 575, 576, 577, 578, 579, 580, 581, 582, 583, 584, 585, 586, 587, 588, 589, 590, 591, 592, 593, 594, 595, 596, 597] (by decide +kernel) (by decide +kernel)
set_option maxRecDepth 20000 in
theorem gL_law_X6_owes : GoodIn wsL_law (wsV RL 143 RX6 yX6_owes wsX6_owes) := goodIn_app (goodIn_of _ (by decide +kernel)) ggL_law_X6_owes
set_option maxRecDepth 20000 in
theorem ggL_law_L_purse : GoodIn wsL_law wsL_purse := goodIn_ca (goodIn_r _ [558, 105, 559, 560, 561, 2, 562, 32, 563, 111, 112, 113, 114, 115, 568, 569, 570, 571, 572, 573, 619, 620] (by decide +kernel) (by decide +kernel)) (goodIn_sub (fun _ h => List.mem_append_left _ (List.mem_append_left _ (List.mem_append_right _ h))) (by decide +kernel))
set_option maxRecDepth 20000 in
theorem gL_law_L_purse : GoodIn wsL_law (va_wsS RL 144 yL_purse wsL_purse) := goodIn_app (goodIn_of _ (by decide +kernel)) ggL_law_L_purse
set_option maxRecDepth 20000 in
theorem ggL_law_X6_purse : GoodIn wsL_law wsX6_purse := goodIn_r _ [567, 88, 138, 139, 5, 140, 141, 142, 143, 144, 145, 146, 147, 148, 574, 575, 576, 577, 578, 579, 580, 581, 582, 583, 584, 585, 586, 587, 588, 589, 590, 591, 592, 593, 594, 595, 596, 597] (by decide +kernel) (by decide +kernel)
set_option maxRecDepth 20000 in
theorem gL_law_X6_purse : GoodIn wsL_law (wsV RL 146 RX6 yX6_purse wsX6_purse) := goodIn_app (goodIn_of _ (by decide +kernel)) ggL_law_X6_purse
theorem dL_law_0 : decode cL_law 0 = .ok (.new 8, 3) := by decide +kernel
theorem dL_law_3 : decode cL_law 3 = .ok (.dup, 1) := by decide +kernel
theorem dL_law_4 : decode cL_law 4 = .ok (.invokespecial 68, 3) := by decide +kernel
theorem dL_law_7 : decode cL_law 7 = .ok (.astore_n 1, 1) := by decide +kernel
theorem dL_law_8 : decode cL_law 8 = .ok (.new 69, 3) := by decide +kernel
theorem dL_law_11 : decode cL_law 11 = .ok (.dup, 1) := by decide +kernel
theorem dL_law_12 : decode cL_law 12 = .ok (.invokespecial 71, 3) := by decide +kernel
theorem dL_law_15 : decode cL_law 15 = .ok (.astore_n 2, 1) := by decide +kernel
theorem dL_law_16 : decode cL_law 16 = .ok (.iconst 1, 1) := by decide +kernel
theorem dL_law_17 : decode cL_law 17 = .ok (.newarray .long, 2) := by decide +kernel
theorem dL_law_19 : decode cL_law 19 = .ok (.astore_n 3, 1) := by decide +kernel
theorem dL_law_20 : decode cL_law 20 = .ok (.iconst 0, 1) := by decide +kernel
theorem dL_law_21 : decode cL_law 21 = .ok (.istore 4, 2) := by decide +kernel
theorem dL_law_23 : decode cL_law 23 = .ok (.iload 4, 2) := by decide +kernel
theorem dL_law_25 : decode cL_law 25 = .ok (.aload_n 0, 1) := by decide +kernel
theorem dL_law_26 : decode cL_law 26 = .ok (.arraylength, 1) := by decide +kernel
theorem dL_law_27 : decode cL_law 27 = .ok (.iconst 5, 1) := by decide +kernel
theorem dL_law_28 : decode cL_law 28 = .ok (.isub, 1) := by decide +kernel
theorem dL_law_29 : decode cL_law 29 = .ok (.if_icmp .gt 1229, 3) := by decide +kernel
theorem dL_law_32 : decode cL_law 32 = .ok (.aload_n 0, 1) := by decide +kernel
theorem dL_law_33 : decode cL_law 33 = .ok (.iload 4, 2) := by decide +kernel
theorem dL_law_35 : decode cL_law 35 = .ok (.iaload, 1) := by decide +kernel
theorem dL_law_36 : decode cL_law 36 = .ok (.bipush 31, 2) := by decide +kernel
theorem dL_law_38 : decode cL_law 38 = .ok (.iand, 1) := by decide +kernel
theorem dL_law_39 : decode cL_law 39 = .ok (.tableswitch 1213 0 19 #[93, 185, 253, 294, 386, 442, 522, 566, 579, 592, 605, 673, 741, 809, 865, 921, 977, 1033, 1089, 1157], 93) := by decide +kernel
theorem dL_law_132 : decode cL_law 132 = .ok (.aload_n 1, 1) := by decide +kernel
theorem dL_law_133 : decode cL_law 133 = .ok (.aload_n 0, 1) := by decide +kernel
theorem dL_law_134 : decode cL_law 134 = .ok (.iload 4, 2) := by decide +kernel
theorem dL_law_136 : decode cL_law 136 = .ok (.iconst 1, 1) := by decide +kernel
theorem dL_law_137 : decode cL_law 137 = .ok (.iadd, 1) := by decide +kernel
theorem dL_law_138 : decode cL_law 138 = .ok (.iaload, 1) := by decide +kernel
theorem dL_law_139 : decode cL_law 139 = .ok (.aload_n 0, 1) := by decide +kernel
theorem dL_law_140 : decode cL_law 140 = .ok (.iload 4, 2) := by decide +kernel
theorem dL_law_142 : decode cL_law 142 = .ok (.iconst 2, 1) := by decide +kernel
theorem dL_law_143 : decode cL_law 143 = .ok (.iadd, 1) := by decide +kernel
theorem dL_law_144 : decode cL_law 144 = .ok (.iaload, 1) := by decide +kernel
theorem dL_law_145 : decode cL_law 145 = .ok (.aload_n 0, 1) := by decide +kernel
theorem dL_law_146 : decode cL_law 146 = .ok (.iload 4, 2) := by decide +kernel
theorem dL_law_148 : decode cL_law 148 = .ok (.iconst 3, 1) := by decide +kernel
theorem dL_law_149 : decode cL_law 149 = .ok (.iadd, 1) := by decide +kernel
theorem dL_law_150 : decode cL_law 150 = .ok (.iaload, 1) := by decide +kernel
theorem dL_law_151 : decode cL_law 151 = .ok (.aload_n 0, 1) := by decide +kernel
theorem dL_law_152 : decode cL_law 152 = .ok (.iload 4, 2) := by decide +kernel
theorem dL_law_154 : decode cL_law 154 = .ok (.iconst 4, 1) := by decide +kernel
theorem dL_law_155 : decode cL_law 155 = .ok (.iadd, 1) := by decide +kernel
theorem dL_law_156 : decode cL_law 156 = .ok (.iaload, 1) := by decide +kernel
theorem dL_law_157 : decode cL_law 157 = .ok (.aload_n 3, 1) := by decide +kernel
theorem dL_law_158 : decode cL_law 158 = .ok (.invokestatic 72, 3) := by decide +kernel
theorem dL_law_161 : decode cL_law 161 = .ok (.istore 5, 2) := by decide +kernel
theorem dL_law_163 : decode cL_law 163 = .ok (.aload_n 2, 1) := by decide +kernel
theorem dL_law_164 : decode cL_law 164 = .ok (.aload_n 0, 1) := by decide +kernel
theorem dL_law_165 : decode cL_law 165 = .ok (.iload 4, 2) := by decide +kernel
theorem dL_law_167 : decode cL_law 167 = .ok (.iconst 1, 1) := by decide +kernel
theorem dL_law_168 : decode cL_law 168 = .ok (.iadd, 1) := by decide +kernel
theorem dL_law_169 : decode cL_law 169 = .ok (.iaload, 1) := by decide +kernel
theorem dL_law_170 : decode cL_law 170 = .ok (.aload_n 0, 1) := by decide +kernel
theorem dL_law_171 : decode cL_law 171 = .ok (.iload 4, 2) := by decide +kernel
theorem dL_law_173 : decode cL_law 173 = .ok (.iconst 2, 1) := by decide +kernel
theorem dL_law_174 : decode cL_law 174 = .ok (.iadd, 1) := by decide +kernel
theorem dL_law_175 : decode cL_law 175 = .ok (.iaload, 1) := by decide +kernel
theorem dL_law_176 : decode cL_law 176 = .ok (.aload_n 0, 1) := by decide +kernel
theorem dL_law_177 : decode cL_law 177 = .ok (.iload 4, 2) := by decide +kernel
theorem dL_law_179 : decode cL_law 179 = .ok (.iconst 3, 1) := by decide +kernel
theorem dL_law_180 : decode cL_law 180 = .ok (.iadd, 1) := by decide +kernel
theorem dL_law_181 : decode cL_law 181 = .ok (.iaload, 1) := by decide +kernel
theorem dL_law_182 : decode cL_law 182 = .ok (.aload_n 0, 1) := by decide +kernel
theorem dL_law_183 : decode cL_law 183 = .ok (.iload 4, 2) := by decide +kernel
theorem dL_law_185 : decode cL_law 185 = .ok (.iconst 4, 1) := by decide +kernel
theorem dL_law_186 : decode cL_law 186 = .ok (.iadd, 1) := by decide +kernel
theorem dL_law_187 : decode cL_law 187 = .ok (.iaload, 1) := by decide +kernel
theorem dL_law_188 : decode cL_law 188 = .ok (.invokevirtual 77, 3) := by decide +kernel
theorem dL_law_191 : decode cL_law 191 = .ok (.istore 6, 2) := by decide +kernel
theorem dL_law_193 : decode cL_law 193 = .ok (.aload_n 2, 1) := by decide +kernel
theorem dL_law_194 : decode cL_law 194 = .ok (.invokevirtual 78, 3) := by decide +kernel
theorem dL_law_197 : decode cL_law 197 = .ok (.iload 5, 2) := by decide +kernel
theorem dL_law_199 : decode cL_law 199 = .ok (.if_icmp .eq 5, 3) := by decide +kernel
theorem dL_law_202 : decode cL_law 202 = .ok (.iconst 0, 1) := by decide +kernel
theorem dL_law_203 : decode cL_law 203 = .ok (.ireturn, 1) := by decide +kernel
theorem dL_law_204 : decode cL_law 204 = .ok (.iload 5, 2) := by decide +kernel
theorem dL_law_206 : decode cL_law 206 = .ok (.ifCond .ne 15, 3) := by decide +kernel
theorem dL_law_209 : decode cL_law 209 = .ok (.aload_n 3, 1) := by decide +kernel
theorem dL_law_210 : decode cL_law 210 = .ok (.iconst 0, 1) := by decide +kernel
theorem dL_law_211 : decode cL_law 211 = .ok (.laload, 1) := by decide +kernel
theorem dL_law_212 : decode cL_law 212 = .ok (.iload 6, 2) := by decide +kernel
theorem dL_law_214 : decode cL_law 214 = .ok (.i2l, 1) := by decide +kernel
theorem dL_law_215 : decode cL_law 215 = .ok (.lcmp, 1) := by decide +kernel
theorem dL_law_216 : decode cL_law 216 = .ok (.ifCond .eq 5, 3) := by decide +kernel
theorem dL_law_219 : decode cL_law 219 = .ok (.iconst 0, 1) := by decide +kernel
theorem dL_law_220 : decode cL_law 220 = .ok (.ireturn, 1) := by decide +kernel
theorem dL_law_221 : decode cL_law 221 = .ok (.goto 1031, 3) := by decide +kernel
theorem dL_law_224 : decode cL_law 224 = .ok (.aload_n 1, 1) := by decide +kernel
theorem dL_law_225 : decode cL_law 225 = .ok (.aload_n 0, 1) := by decide +kernel
theorem dL_law_226 : decode cL_law 226 = .ok (.iload 4, 2) := by decide +kernel
theorem dL_law_228 : decode cL_law 228 = .ok (.iconst 1, 1) := by decide +kernel
theorem dL_law_229 : decode cL_law 229 = .ok (.iadd, 1) := by decide +kernel
theorem dL_law_230 : decode cL_law 230 = .ok (.iaload, 1) := by decide +kernel
theorem dL_law_231 : decode cL_law 231 = .ok (.aload_n 0, 1) := by decide +kernel
theorem dL_law_232 : decode cL_law 232 = .ok (.iload 4, 2) := by decide +kernel
theorem dL_law_234 : decode cL_law 234 = .ok (.iconst 2, 1) := by decide +kernel
theorem dL_law_235 : decode cL_law 235 = .ok (.iadd, 1) := by decide +kernel
theorem dL_law_236 : decode cL_law 236 = .ok (.iaload, 1) := by decide +kernel
theorem dL_law_237 : decode cL_law 237 = .ok (.aload_n 3, 1) := by decide +kernel
theorem dL_law_238 : decode cL_law 238 = .ok (.invokestatic 81, 3) := by decide +kernel
theorem dL_law_241 : decode cL_law 241 = .ok (.istore 5, 2) := by decide +kernel
theorem dL_law_243 : decode cL_law 243 = .ok (.aload_n 2, 1) := by decide +kernel
theorem dL_law_244 : decode cL_law 244 = .ok (.aload_n 0, 1) := by decide +kernel
theorem dL_law_245 : decode cL_law 245 = .ok (.iload 4, 2) := by decide +kernel
theorem dL_law_247 : decode cL_law 247 = .ok (.iconst 1, 1) := by decide +kernel
theorem dL_law_248 : decode cL_law 248 = .ok (.iadd, 1) := by decide +kernel
theorem dL_law_249 : decode cL_law 249 = .ok (.iaload, 1) := by decide +kernel
theorem dL_law_250 : decode cL_law 250 = .ok (.aload_n 0, 1) := by decide +kernel
theorem dL_law_251 : decode cL_law 251 = .ok (.iload 4, 2) := by decide +kernel
theorem dL_law_253 : decode cL_law 253 = .ok (.iconst 2, 1) := by decide +kernel
theorem dL_law_254 : decode cL_law 254 = .ok (.iadd, 1) := by decide +kernel
theorem dL_law_255 : decode cL_law 255 = .ok (.iaload, 1) := by decide +kernel
theorem dL_law_256 : decode cL_law 256 = .ok (.invokevirtual 84, 3) := by decide +kernel
theorem dL_law_259 : decode cL_law 259 = .ok (.istore 6, 2) := by decide +kernel
theorem dL_law_261 : decode cL_law 261 = .ok (.aload_n 2, 1) := by decide +kernel
theorem dL_law_262 : decode cL_law 262 = .ok (.invokevirtual 78, 3) := by decide +kernel
theorem dL_law_265 : decode cL_law 265 = .ok (.iload 5, 2) := by decide +kernel
theorem dL_law_267 : decode cL_law 267 = .ok (.if_icmp .eq 5, 3) := by decide +kernel
theorem dL_law_270 : decode cL_law 270 = .ok (.iconst 0, 1) := by decide +kernel
theorem dL_law_271 : decode cL_law 271 = .ok (.ireturn, 1) := by decide +kernel
theorem dL_law_272 : decode cL_law 272 = .ok (.iload 5, 2) := by decide +kernel
theorem dL_law_274 : decode cL_law 274 = .ok (.ifCond .ne 15, 3) := by decide +kernel
theorem dL_law_277 : decode cL_law 277 = .ok (.aload_n 3, 1) := by decide +kernel
theorem dL_law_278 : decode cL_law 278 = .ok (.iconst 0, 1) := by decide +kernel
theorem dL_law_279 : decode cL_law 279 = .ok (.laload, 1) := by decide +kernel
theorem dL_law_280 : decode cL_law 280 = .ok (.iload 6, 2) := by decide +kernel
theorem dL_law_282 : decode cL_law 282 = .ok (.i2l, 1) := by decide +kernel
theorem dL_law_283 : decode cL_law 283 = .ok (.lcmp, 1) := by decide +kernel
theorem dL_law_284 : decode cL_law 284 = .ok (.ifCond .eq 5, 3) := by decide +kernel
theorem dL_law_287 : decode cL_law 287 = .ok (.iconst 0, 1) := by decide +kernel
theorem dL_law_288 : decode cL_law 288 = .ok (.ireturn, 1) := by decide +kernel
theorem dL_law_289 : decode cL_law 289 = .ok (.goto 963, 3) := by decide +kernel
theorem dL_law_292 : decode cL_law 292 = .ok (.aload_n 1, 1) := by decide +kernel
theorem dL_law_293 : decode cL_law 293 = .ok (.aload_n 0, 1) := by decide +kernel
theorem dL_law_294 : decode cL_law 294 = .ok (.iload 4, 2) := by decide +kernel
theorem dL_law_296 : decode cL_law 296 = .ok (.iconst 1, 1) := by decide +kernel
theorem dL_law_297 : decode cL_law 297 = .ok (.iadd, 1) := by decide +kernel
theorem dL_law_298 : decode cL_law 298 = .ok (.iaload, 1) := by decide +kernel
theorem dL_law_299 : decode cL_law 299 = .ok (.ifCond .eq 7, 3) := by decide +kernel
theorem dL_law_302 : decode cL_law 302 = .ok (.iconst 1, 1) := by decide +kernel
theorem dL_law_303 : decode cL_law 303 = .ok (.goto 4, 3) := by decide +kernel
theorem dL_law_306 : decode cL_law 306 = .ok (.iconst 0, 1) := by decide +kernel
theorem dL_law_307 : decode cL_law 307 = .ok (.invokevirtual 85, 3) := by decide +kernel
theorem dL_law_310 : decode cL_law 310 = .ok (.aload_n 2, 1) := by decide +kernel
theorem dL_law_311 : decode cL_law 311 = .ok (.aload_n 0, 1) := by decide +kernel
theorem dL_law_312 : decode cL_law 312 = .ok (.iload 4, 2) := by decide +kernel
theorem dL_law_314 : decode cL_law 314 = .ok (.iconst 1, 1) := by decide +kernel
theorem dL_law_315 : decode cL_law 315 = .ok (.iadd, 1) := by decide +kernel
theorem dL_law_316 : decode cL_law 316 = .ok (.iaload, 1) := by decide +kernel
theorem dL_law_317 : decode cL_law 317 = .ok (.ifCond .eq 7, 3) := by decide +kernel
theorem dL_law_320 : decode cL_law 320 = .ok (.iconst 1, 1) := by decide +kernel
theorem dL_law_321 : decode cL_law 321 = .ok (.goto 4, 3) := by decide +kernel
theorem dL_law_324 : decode cL_law 324 = .ok (.iconst 0, 1) := by decide +kernel
theorem dL_law_325 : decode cL_law 325 = .ok (.invokevirtual 89, 3) := by decide +kernel
theorem dL_law_328 : decode cL_law 328 = .ok (.if_icmp .eq 924, 3) := by decide +kernel
theorem dL_law_331 : decode cL_law 331 = .ok (.iconst 0, 1) := by decide +kernel
theorem dL_law_332 : decode cL_law 332 = .ok (.ireturn, 1) := by decide +kernel
theorem dL_law_333 : decode cL_law 333 = .ok (.aload_n 1, 1) := by decide +kernel
theorem dL_law_334 : decode cL_law 334 = .ok (.aload_n 0, 1) := by decide +kernel
theorem dL_law_335 : decode cL_law 335 = .ok (.iload 4, 2) := by decide +kernel
theorem dL_law_337 : decode cL_law 337 = .ok (.iconst 1, 1) := by decide +kernel
theorem dL_law_338 : decode cL_law 338 = .ok (.iadd, 1) := by decide +kernel
theorem dL_law_339 : decode cL_law 339 = .ok (.iaload, 1) := by decide +kernel
theorem dL_law_340 : decode cL_law 340 = .ok (.aload_n 0, 1) := by decide +kernel
theorem dL_law_341 : decode cL_law 341 = .ok (.iload 4, 2) := by decide +kernel
theorem dL_law_343 : decode cL_law 343 = .ok (.iconst 2, 1) := by decide +kernel
theorem dL_law_344 : decode cL_law 344 = .ok (.iadd, 1) := by decide +kernel
theorem dL_law_345 : decode cL_law 345 = .ok (.iaload, 1) := by decide +kernel
theorem dL_law_346 : decode cL_law 346 = .ok (.aload_n 0, 1) := by decide +kernel
theorem dL_law_347 : decode cL_law 347 = .ok (.iload 4, 2) := by decide +kernel
theorem dL_law_349 : decode cL_law 349 = .ok (.iconst 3, 1) := by decide +kernel
theorem dL_law_350 : decode cL_law 350 = .ok (.iadd, 1) := by decide +kernel
theorem dL_law_351 : decode cL_law 351 = .ok (.iaload, 1) := by decide +kernel
theorem dL_law_352 : decode cL_law 352 = .ok (.aload_n 0, 1) := by decide +kernel
theorem dL_law_353 : decode cL_law 353 = .ok (.iload 4, 2) := by decide +kernel
theorem dL_law_355 : decode cL_law 355 = .ok (.iconst 4, 1) := by decide +kernel
theorem dL_law_356 : decode cL_law 356 = .ok (.iadd, 1) := by decide +kernel
theorem dL_law_357 : decode cL_law 357 = .ok (.iaload, 1) := by decide +kernel
theorem dL_law_358 : decode cL_law 358 = .ok (.aload_n 3, 1) := by decide +kernel
theorem dL_law_359 : decode cL_law 359 = .ok (.invokestatic 90, 3) := by decide +kernel
theorem dL_law_362 : decode cL_law 362 = .ok (.istore 5, 2) := by decide +kernel
theorem dL_law_364 : decode cL_law 364 = .ok (.aload_n 2, 1) := by decide +kernel
theorem dL_law_365 : decode cL_law 365 = .ok (.aload_n 0, 1) := by decide +kernel
theorem dL_law_366 : decode cL_law 366 = .ok (.iload 4, 2) := by decide +kernel
theorem dL_law_368 : decode cL_law 368 = .ok (.iconst 1, 1) := by decide +kernel
theorem dL_law_369 : decode cL_law 369 = .ok (.iadd, 1) := by decide +kernel
theorem dL_law_370 : decode cL_law 370 = .ok (.iaload, 1) := by decide +kernel
theorem dL_law_371 : decode cL_law 371 = .ok (.aload_n 0, 1) := by decide +kernel
theorem dL_law_372 : decode cL_law 372 = .ok (.iload 4, 2) := by decide +kernel
theorem dL_law_374 : decode cL_law 374 = .ok (.iconst 2, 1) := by decide +kernel
theorem dL_law_375 : decode cL_law 375 = .ok (.iadd, 1) := by decide +kernel
theorem dL_law_376 : decode cL_law 376 = .ok (.iaload, 1) := by decide +kernel
theorem dL_law_377 : decode cL_law 377 = .ok (.aload_n 0, 1) := by decide +kernel
theorem dL_law_378 : decode cL_law 378 = .ok (.iload 4, 2) := by decide +kernel
theorem dL_law_380 : decode cL_law 380 = .ok (.iconst 3, 1) := by decide +kernel
theorem dL_law_381 : decode cL_law 381 = .ok (.iadd, 1) := by decide +kernel
theorem dL_law_382 : decode cL_law 382 = .ok (.iaload, 1) := by decide +kernel
theorem dL_law_383 : decode cL_law 383 = .ok (.aload_n 0, 1) := by decide +kernel
theorem dL_law_384 : decode cL_law 384 = .ok (.iload 4, 2) := by decide +kernel
theorem dL_law_386 : decode cL_law 386 = .ok (.iconst 4, 1) := by decide +kernel
theorem dL_law_387 : decode cL_law 387 = .ok (.iadd, 1) := by decide +kernel
theorem dL_law_388 : decode cL_law 388 = .ok (.iaload, 1) := by decide +kernel
theorem dL_law_389 : decode cL_law 389 = .ok (.invokevirtual 92, 3) := by decide +kernel
theorem dL_law_392 : decode cL_law 392 = .ok (.istore 6, 2) := by decide +kernel
theorem dL_law_394 : decode cL_law 394 = .ok (.aload_n 2, 1) := by decide +kernel
theorem dL_law_395 : decode cL_law 395 = .ok (.invokevirtual 78, 3) := by decide +kernel
theorem dL_law_398 : decode cL_law 398 = .ok (.iload 5, 2) := by decide +kernel
theorem dL_law_400 : decode cL_law 400 = .ok (.if_icmp .eq 5, 3) := by decide +kernel
theorem dL_law_403 : decode cL_law 403 = .ok (.iconst 0, 1) := by decide +kernel
theorem dL_law_404 : decode cL_law 404 = .ok (.ireturn, 1) := by decide +kernel
theorem dL_law_405 : decode cL_law 405 = .ok (.iload 5, 2) := by decide +kernel
theorem dL_law_407 : decode cL_law 407 = .ok (.ifCond .ne 15, 3) := by decide +kernel
theorem dL_law_410 : decode cL_law 410 = .ok (.aload_n 3, 1) := by decide +kernel
theorem dL_law_411 : decode cL_law 411 = .ok (.iconst 0, 1) := by decide +kernel
theorem dL_law_412 : decode cL_law 412 = .ok (.laload, 1) := by decide +kernel
theorem dL_law_413 : decode cL_law 413 = .ok (.iload 6, 2) := by decide +kernel
theorem dL_law_415 : decode cL_law 415 = .ok (.i2l, 1) := by decide +kernel
theorem dL_law_416 : decode cL_law 416 = .ok (.lcmp, 1) := by decide +kernel
theorem dL_law_417 : decode cL_law 417 = .ok (.ifCond .eq 5, 3) := by decide +kernel
theorem dL_law_420 : decode cL_law 420 = .ok (.iconst 0, 1) := by decide +kernel
theorem dL_law_421 : decode cL_law 421 = .ok (.ireturn, 1) := by decide +kernel
theorem dL_law_422 : decode cL_law 422 = .ok (.goto 830, 3) := by decide +kernel
theorem dL_law_425 : decode cL_law 425 = .ok (.aload_n 1, 1) := by decide +kernel
theorem dL_law_426 : decode cL_law 426 = .ok (.aload_n 0, 1) := by decide +kernel
theorem dL_law_427 : decode cL_law 427 = .ok (.iload 4, 2) := by decide +kernel
theorem dL_law_429 : decode cL_law 429 = .ok (.iconst 1, 1) := by decide +kernel
theorem dL_law_430 : decode cL_law 430 = .ok (.iadd, 1) := by decide +kernel
theorem dL_law_431 : decode cL_law 431 = .ok (.iaload, 1) := by decide +kernel
theorem dL_law_432 : decode cL_law 432 = .ok (.aload_n 3, 1) := by decide +kernel
theorem dL_law_433 : decode cL_law 433 = .ok (.invokestatic 93, 3) := by decide +kernel
theorem dL_law_436 : decode cL_law 436 = .ok (.istore 5, 2) := by decide +kernel
theorem dL_law_438 : decode cL_law 438 = .ok (.aload_n 2, 1) := by decide +kernel
theorem dL_law_439 : decode cL_law 439 = .ok (.aload_n 0, 1) := by decide +kernel
theorem dL_law_440 : decode cL_law 440 = .ok (.iload 4, 2) := by decide +kernel
theorem dL_law_442 : decode cL_law 442 = .ok (.iconst 1, 1) := by decide +kernel
theorem dL_law_443 : decode cL_law 443 = .ok (.iadd, 1) := by decide +kernel
theorem dL_law_444 : decode cL_law 444 = .ok (.iaload, 1) := by decide +kernel
theorem dL_law_445 : decode cL_law 445 = .ok (.invokevirtual 96, 3) := by decide +kernel
theorem dL_law_448 : decode cL_law 448 = .ok (.istore 6, 2) := by decide +kernel
theorem dL_law_450 : decode cL_law 450 = .ok (.aload_n 2, 1) := by decide +kernel
theorem dL_law_451 : decode cL_law 451 = .ok (.invokevirtual 78, 3) := by decide +kernel
theorem dL_law_454 : decode cL_law 454 = .ok (.iload 5, 2) := by decide +kernel
theorem dL_law_456 : decode cL_law 456 = .ok (.if_icmp .eq 5, 3) := by decide +kernel
theorem dL_law_459 : decode cL_law 459 = .ok (.iconst 0, 1) := by decide +kernel
theorem dL_law_460 : decode cL_law 460 = .ok (.ireturn, 1) := by decide +kernel
theorem dL_law_461 : decode cL_law 461 = .ok (.iload 5, 2) := by decide +kernel
theorem dL_law_463 : decode cL_law 463 = .ok (.ifCond .ne 15, 3) := by decide +kernel
theorem dL_law_466 : decode cL_law 466 = .ok (.aload_n 3, 1) := by decide +kernel
theorem dL_law_467 : decode cL_law 467 = .ok (.iconst 0, 1) := by decide +kernel
theorem dL_law_468 : decode cL_law 468 = .ok (.laload, 1) := by decide +kernel
theorem dL_law_469 : decode cL_law 469 = .ok (.iload 6, 2) := by decide +kernel
theorem dL_law_471 : decode cL_law 471 = .ok (.i2l, 1) := by decide +kernel
theorem dL_law_472 : decode cL_law 472 = .ok (.lcmp, 1) := by decide +kernel
theorem dL_law_473 : decode cL_law 473 = .ok (.ifCond .eq 5, 3) := by decide +kernel
theorem dL_law_476 : decode cL_law 476 = .ok (.iconst 0, 1) := by decide +kernel
theorem dL_law_477 : decode cL_law 477 = .ok (.ireturn, 1) := by decide +kernel
theorem dL_law_478 : decode cL_law 478 = .ok (.goto 774, 3) := by decide +kernel
theorem dL_law_481 : decode cL_law 481 = .ok (.aload_n 1, 1) := by decide +kernel
theorem dL_law_482 : decode cL_law 482 = .ok (.aload_n 0, 1) := by decide +kernel
theorem dL_law_483 : decode cL_law 483 = .ok (.iload 4, 2) := by decide +kernel
theorem dL_law_485 : decode cL_law 485 = .ok (.iconst 1, 1) := by decide +kernel
theorem dL_law_486 : decode cL_law 486 = .ok (.iadd, 1) := by decide +kernel
theorem dL_law_487 : decode cL_law 487 = .ok (.iaload, 1) := by decide +kernel
theorem dL_law_488 : decode cL_law 488 = .ok (.aload_n 0, 1) := by decide +kernel
theorem dL_law_489 : decode cL_law 489 = .ok (.iload 4, 2) := by decide +kernel
theorem dL_law_491 : decode cL_law 491 = .ok (.iconst 2, 1) := by decide +kernel
theorem dL_law_492 : decode cL_law 492 = .ok (.iadd, 1) := by decide +kernel
theorem dL_law_493 : decode cL_law 493 = .ok (.iaload, 1) := by decide +kernel
theorem dL_law_494 : decode cL_law 494 = .ok (.aload_n 0, 1) := by decide +kernel
theorem dL_law_495 : decode cL_law 495 = .ok (.iload 4, 2) := by decide +kernel
theorem dL_law_497 : decode cL_law 497 = .ok (.iconst 3, 1) := by decide +kernel
theorem dL_law_498 : decode cL_law 498 = .ok (.iadd, 1) := by decide +kernel
theorem dL_law_499 : decode cL_law 499 = .ok (.iaload, 1) := by decide +kernel
theorem dL_law_500 : decode cL_law 500 = .ok (.aload_n 3, 1) := by decide +kernel
theorem dL_law_501 : decode cL_law 501 = .ok (.invokestatic 97, 3) := by decide +kernel
theorem dL_law_504 : decode cL_law 504 = .ok (.istore 5, 2) := by decide +kernel
theorem dL_law_506 : decode cL_law 506 = .ok (.aload_n 2, 1) := by decide +kernel
theorem dL_law_507 : decode cL_law 507 = .ok (.aload_n 0, 1) := by decide +kernel
theorem dL_law_508 : decode cL_law 508 = .ok (.iload 4, 2) := by decide +kernel
theorem dL_law_510 : decode cL_law 510 = .ok (.iconst 1, 1) := by decide +kernel
theorem dL_law_511 : decode cL_law 511 = .ok (.iadd, 1) := by decide +kernel
theorem dL_law_512 : decode cL_law 512 = .ok (.iaload, 1) := by decide +kernel
theorem dL_law_513 : decode cL_law 513 = .ok (.aload_n 0, 1) := by decide +kernel
theorem dL_law_514 : decode cL_law 514 = .ok (.iload 4, 2) := by decide +kernel
theorem dL_law_516 : decode cL_law 516 = .ok (.iconst 2, 1) := by decide +kernel
theorem dL_law_517 : decode cL_law 517 = .ok (.iadd, 1) := by decide +kernel
theorem dL_law_518 : decode cL_law 518 = .ok (.iaload, 1) := by decide +kernel
theorem dL_law_519 : decode cL_law 519 = .ok (.aload_n 0, 1) := by decide +kernel
theorem dL_law_520 : decode cL_law 520 = .ok (.iload 4, 2) := by decide +kernel
theorem dL_law_522 : decode cL_law 522 = .ok (.iconst 3, 1) := by decide +kernel
theorem dL_law_523 : decode cL_law 523 = .ok (.iadd, 1) := by decide +kernel
theorem dL_law_524 : decode cL_law 524 = .ok (.iaload, 1) := by decide +kernel
theorem dL_law_525 : decode cL_law 525 = .ok (.invokevirtual 100, 3) := by decide +kernel
theorem dL_law_528 : decode cL_law 528 = .ok (.istore 6, 2) := by decide +kernel
theorem dL_law_530 : decode cL_law 530 = .ok (.aload_n 2, 1) := by decide +kernel
theorem dL_law_531 : decode cL_law 531 = .ok (.invokevirtual 78, 3) := by decide +kernel
theorem dL_law_534 : decode cL_law 534 = .ok (.iload 5, 2) := by decide +kernel
theorem dL_law_536 : decode cL_law 536 = .ok (.if_icmp .eq 5, 3) := by decide +kernel
theorem dL_law_539 : decode cL_law 539 = .ok (.iconst 0, 1) := by decide +kernel
theorem dL_law_540 : decode cL_law 540 = .ok (.ireturn, 1) := by decide +kernel
theorem dL_law_541 : decode cL_law 541 = .ok (.iload 5, 2) := by decide +kernel
theorem dL_law_543 : decode cL_law 543 = .ok (.ifCond .ne 15, 3) := by decide +kernel
theorem dL_law_546 : decode cL_law 546 = .ok (.aload_n 3, 1) := by decide +kernel
theorem dL_law_547 : decode cL_law 547 = .ok (.iconst 0, 1) := by decide +kernel
theorem dL_law_548 : decode cL_law 548 = .ok (.laload, 1) := by decide +kernel
theorem dL_law_549 : decode cL_law 549 = .ok (.iload 6, 2) := by decide +kernel
theorem dL_law_551 : decode cL_law 551 = .ok (.i2l, 1) := by decide +kernel
theorem dL_law_552 : decode cL_law 552 = .ok (.lcmp, 1) := by decide +kernel
theorem dL_law_553 : decode cL_law 553 = .ok (.ifCond .eq 5, 3) := by decide +kernel
theorem dL_law_556 : decode cL_law 556 = .ok (.iconst 0, 1) := by decide +kernel
theorem dL_law_557 : decode cL_law 557 = .ok (.ireturn, 1) := by decide +kernel
theorem dL_law_558 : decode cL_law 558 = .ok (.goto 694, 3) := by decide +kernel
theorem dL_law_561 : decode cL_law 561 = .ok (.aload_n 1, 1) := by decide +kernel
theorem dL_law_562 : decode cL_law 562 = .ok (.aload_n 3, 1) := by decide +kernel
theorem dL_law_563 : decode cL_law 563 = .ok (.invokestatic 101, 3) := by decide +kernel
theorem dL_law_566 : decode cL_law 566 = .ok (.istore 5, 2) := by decide +kernel
theorem dL_law_568 : decode cL_law 568 = .ok (.aload_n 2, 1) := by decide +kernel
theorem dL_law_569 : decode cL_law 569 = .ok (.invokevirtual 104, 3) := by decide +kernel
theorem dL_law_572 : decode cL_law 572 = .ok (.istore 6, 2) := by decide +kernel
theorem dL_law_574 : decode cL_law 574 = .ok (.aload_n 2, 1) := by decide +kernel
theorem dL_law_575 : decode cL_law 575 = .ok (.invokevirtual 78, 3) := by decide +kernel
theorem dL_law_578 : decode cL_law 578 = .ok (.iload 5, 2) := by decide +kernel
theorem dL_law_580 : decode cL_law 580 = .ok (.if_icmp .eq 5, 3) := by decide +kernel
theorem dL_law_583 : decode cL_law 583 = .ok (.iconst 0, 1) := by decide +kernel
theorem dL_law_584 : decode cL_law 584 = .ok (.ireturn, 1) := by decide +kernel
theorem dL_law_585 : decode cL_law 585 = .ok (.iload 5, 2) := by decide +kernel
theorem dL_law_587 : decode cL_law 587 = .ok (.ifCond .ne 15, 3) := by decide +kernel
theorem dL_law_590 : decode cL_law 590 = .ok (.aload_n 3, 1) := by decide +kernel
theorem dL_law_591 : decode cL_law 591 = .ok (.iconst 0, 1) := by decide +kernel
theorem dL_law_592 : decode cL_law 592 = .ok (.laload, 1) := by decide +kernel
theorem dL_law_593 : decode cL_law 593 = .ok (.iload 6, 2) := by decide +kernel
theorem dL_law_595 : decode cL_law 595 = .ok (.i2l, 1) := by decide +kernel
theorem dL_law_596 : decode cL_law 596 = .ok (.lcmp, 1) := by decide +kernel
theorem dL_law_597 : decode cL_law 597 = .ok (.ifCond .eq 5, 3) := by decide +kernel
theorem dL_law_600 : decode cL_law 600 = .ok (.iconst 0, 1) := by decide +kernel
theorem dL_law_601 : decode cL_law 601 = .ok (.ireturn, 1) := by decide +kernel
theorem dL_law_602 : decode cL_law 602 = .ok (.goto 650, 3) := by decide +kernel
theorem dL_law_605 : decode cL_law 605 = .ok (.aload_n 1, 1) := by decide +kernel
theorem dL_law_606 : decode cL_law 606 = .ok (.invokevirtual 105, 3) := by decide +kernel
theorem dL_law_609 : decode cL_law 609 = .ok (.aload_n 2, 1) := by decide +kernel
theorem dL_law_610 : decode cL_law 610 = .ok (.invokevirtual 108, 3) := by decide +kernel
theorem dL_law_613 : decode cL_law 613 = .ok (.if_icmp .eq 639, 3) := by decide +kernel
theorem dL_law_616 : decode cL_law 616 = .ok (.iconst 0, 1) := by decide +kernel
theorem dL_law_617 : decode cL_law 617 = .ok (.ireturn, 1) := by decide +kernel
theorem dL_law_618 : decode cL_law 618 = .ok (.aload_n 1, 1) := by decide +kernel
theorem dL_law_619 : decode cL_law 619 = .ok (.invokevirtual 109, 3) := by decide +kernel
theorem dL_law_622 : decode cL_law 622 = .ok (.aload_n 2, 1) := by decide +kernel
theorem dL_law_623 : decode cL_law 623 = .ok (.invokevirtual 112, 3) := by decide +kernel
theorem dL_law_626 : decode cL_law 626 = .ok (.if_icmp .eq 626, 3) := by decide +kernel
theorem dL_law_629 : decode cL_law 629 = .ok (.iconst 0, 1) := by decide +kernel
theorem dL_law_630 : decode cL_law 630 = .ok (.ireturn, 1) := by decide +kernel
theorem dL_law_631 : decode cL_law 631 = .ok (.aload_n 1, 1) := by decide +kernel
theorem dL_law_632 : decode cL_law 632 = .ok (.invokevirtual 113, 3) := by decide +kernel
theorem dL_law_635 : decode cL_law 635 = .ok (.aload_n 2, 1) := by decide +kernel
theorem dL_law_636 : decode cL_law 636 = .ok (.invokevirtual 116, 3) := by decide +kernel
theorem dL_law_639 : decode cL_law 639 = .ok (.if_icmp .eq 613, 3) := by decide +kernel
theorem dL_law_642 : decode cL_law 642 = .ok (.iconst 0, 1) := by decide +kernel
theorem dL_law_643 : decode cL_law 643 = .ok (.ireturn, 1) := by decide +kernel
theorem dL_law_644 : decode cL_law 644 = .ok (.aload_n 1, 1) := by decide +kernel
theorem dL_law_645 : decode cL_law 645 = .ok (.aload_n 0, 1) := by decide +kernel
theorem dL_law_646 : decode cL_law 646 = .ok (.iload 4, 2) := by decide +kernel
theorem dL_law_648 : decode cL_law 648 = .ok (.iconst 1, 1) := by decide +kernel
theorem dL_law_649 : decode cL_law 649 = .ok (.iadd, 1) := by decide +kernel
theorem dL_law_650 : decode cL_law 650 = .ok (.iaload, 1) := by decide +kernel
theorem dL_law_651 : decode cL_law 651 = .ok (.aload_n 0, 1) := by decide +kernel
theorem dL_law_652 : decode cL_law 652 = .ok (.iload 4, 2) := by decide +kernel
theorem dL_law_654 : decode cL_law 654 = .ok (.iconst 2, 1) := by decide +kernel
theorem dL_law_655 : decode cL_law 655 = .ok (.iadd, 1) := by decide +kernel
theorem dL_law_656 : decode cL_law 656 = .ok (.iaload, 1) := by decide +kernel
theorem dL_law_657 : decode cL_law 657 = .ok (.aload_n 3, 1) := by decide +kernel
theorem dL_law_658 : decode cL_law 658 = .ok (.invokestatic 117, 3) := by decide +kernel
theorem dL_law_661 : decode cL_law 661 = .ok (.istore 5, 2) := by decide +kernel
theorem dL_law_663 : decode cL_law 663 = .ok (.aload_n 2, 1) := by decide +kernel
theorem dL_law_664 : decode cL_law 664 = .ok (.aload_n 0, 1) := by decide +kernel
theorem dL_law_665 : decode cL_law 665 = .ok (.iload 4, 2) := by decide +kernel
theorem dL_law_667 : decode cL_law 667 = .ok (.iconst 1, 1) := by decide +kernel
theorem dL_law_668 : decode cL_law 668 = .ok (.iadd, 1) := by decide +kernel
theorem dL_law_669 : decode cL_law 669 = .ok (.iaload, 1) := by decide +kernel
theorem dL_law_670 : decode cL_law 670 = .ok (.aload_n 0, 1) := by decide +kernel
theorem dL_law_671 : decode cL_law 671 = .ok (.iload 4, 2) := by decide +kernel
theorem dL_law_673 : decode cL_law 673 = .ok (.iconst 2, 1) := by decide +kernel
theorem dL_law_674 : decode cL_law 674 = .ok (.iadd, 1) := by decide +kernel
theorem dL_law_675 : decode cL_law 675 = .ok (.iaload, 1) := by decide +kernel
theorem dL_law_676 : decode cL_law 676 = .ok (.invokevirtual 119, 3) := by decide +kernel
theorem dL_law_679 : decode cL_law 679 = .ok (.istore 6, 2) := by decide +kernel
theorem dL_law_681 : decode cL_law 681 = .ok (.aload_n 2, 1) := by decide +kernel
theorem dL_law_682 : decode cL_law 682 = .ok (.invokevirtual 78, 3) := by decide +kernel
theorem dL_law_685 : decode cL_law 685 = .ok (.iload 5, 2) := by decide +kernel
theorem dL_law_687 : decode cL_law 687 = .ok (.if_icmp .eq 5, 3) := by decide +kernel
theorem dL_law_690 : decode cL_law 690 = .ok (.iconst 0, 1) := by decide +kernel
theorem dL_law_691 : decode cL_law 691 = .ok (.ireturn, 1) := by decide +kernel
theorem dL_law_692 : decode cL_law 692 = .ok (.iload 5, 2) := by decide +kernel
theorem dL_law_694 : decode cL_law 694 = .ok (.ifCond .ne 15, 3) := by decide +kernel
theorem dL_law_697 : decode cL_law 697 = .ok (.aload_n 3, 1) := by decide +kernel
theorem dL_law_698 : decode cL_law 698 = .ok (.iconst 0, 1) := by decide +kernel
theorem dL_law_699 : decode cL_law 699 = .ok (.laload, 1) := by decide +kernel
theorem dL_law_700 : decode cL_law 700 = .ok (.iload 6, 2) := by decide +kernel
theorem dL_law_702 : decode cL_law 702 = .ok (.i2l, 1) := by decide +kernel
theorem dL_law_703 : decode cL_law 703 = .ok (.lcmp, 1) := by decide +kernel
theorem dL_law_704 : decode cL_law 704 = .ok (.ifCond .eq 5, 3) := by decide +kernel
theorem dL_law_707 : decode cL_law 707 = .ok (.iconst 0, 1) := by decide +kernel
theorem dL_law_708 : decode cL_law 708 = .ok (.ireturn, 1) := by decide +kernel
theorem dL_law_709 : decode cL_law 709 = .ok (.goto 543, 3) := by decide +kernel
theorem dL_law_712 : decode cL_law 712 = .ok (.aload_n 1, 1) := by decide +kernel
theorem dL_law_713 : decode cL_law 713 = .ok (.aload_n 0, 1) := by decide +kernel
theorem dL_law_714 : decode cL_law 714 = .ok (.iload 4, 2) := by decide +kernel
theorem dL_law_716 : decode cL_law 716 = .ok (.iconst 1, 1) := by decide +kernel
theorem dL_law_717 : decode cL_law 717 = .ok (.iadd, 1) := by decide +kernel
theorem dL_law_718 : decode cL_law 718 = .ok (.iaload, 1) := by decide +kernel
theorem dL_law_719 : decode cL_law 719 = .ok (.aload_n 0, 1) := by decide +kernel
theorem dL_law_720 : decode cL_law 720 = .ok (.iload 4, 2) := by decide +kernel
theorem dL_law_722 : decode cL_law 722 = .ok (.iconst 2, 1) := by decide +kernel
theorem dL_law_723 : decode cL_law 723 = .ok (.iadd, 1) := by decide +kernel
theorem dL_law_724 : decode cL_law 724 = .ok (.iaload, 1) := by decide +kernel
theorem dL_law_725 : decode cL_law 725 = .ok (.aload_n 3, 1) := by decide +kernel
theorem dL_law_726 : decode cL_law 726 = .ok (.invokestatic 120, 3) := by decide +kernel
theorem dL_law_729 : decode cL_law 729 = .ok (.istore 5, 2) := by decide +kernel
theorem dL_law_731 : decode cL_law 731 = .ok (.aload_n 2, 1) := by decide +kernel
theorem dL_law_732 : decode cL_law 732 = .ok (.aload_n 0, 1) := by decide +kernel
theorem dL_law_733 : decode cL_law 733 = .ok (.iload 4, 2) := by decide +kernel
theorem dL_law_735 : decode cL_law 735 = .ok (.iconst 1, 1) := by decide +kernel
theorem dL_law_736 : decode cL_law 736 = .ok (.iadd, 1) := by decide +kernel
theorem dL_law_737 : decode cL_law 737 = .ok (.iaload, 1) := by decide +kernel
theorem dL_law_738 : decode cL_law 738 = .ok (.aload_n 0, 1) := by decide +kernel
theorem dL_law_739 : decode cL_law 739 = .ok (.iload 4, 2) := by decide +kernel
theorem dL_law_741 : decode cL_law 741 = .ok (.iconst 2, 1) := by decide +kernel
theorem dL_law_742 : decode cL_law 742 = .ok (.iadd, 1) := by decide +kernel
theorem dL_law_743 : decode cL_law 743 = .ok (.iaload, 1) := by decide +kernel
theorem dL_law_744 : decode cL_law 744 = .ok (.invokevirtual 122, 3) := by decide +kernel
theorem dL_law_747 : decode cL_law 747 = .ok (.istore 6, 2) := by decide +kernel
theorem dL_law_749 : decode cL_law 749 = .ok (.aload_n 2, 1) := by decide +kernel
theorem dL_law_750 : decode cL_law 750 = .ok (.invokevirtual 78, 3) := by decide +kernel
theorem dL_law_753 : decode cL_law 753 = .ok (.iload 5, 2) := by decide +kernel
theorem dL_law_755 : decode cL_law 755 = .ok (.if_icmp .eq 5, 3) := by decide +kernel
theorem dL_law_758 : decode cL_law 758 = .ok (.iconst 0, 1) := by decide +kernel
theorem dL_law_759 : decode cL_law 759 = .ok (.ireturn, 1) := by decide +kernel
theorem dL_law_760 : decode cL_law 760 = .ok (.iload 5, 2) := by decide +kernel
theorem dL_law_762 : decode cL_law 762 = .ok (.ifCond .ne 15, 3) := by decide +kernel
theorem dL_law_765 : decode cL_law 765 = .ok (.aload_n 3, 1) := by decide +kernel
theorem dL_law_766 : decode cL_law 766 = .ok (.iconst 0, 1) := by decide +kernel
theorem dL_law_767 : decode cL_law 767 = .ok (.laload, 1) := by decide +kernel
theorem dL_law_768 : decode cL_law 768 = .ok (.iload 6, 2) := by decide +kernel
theorem dL_law_770 : decode cL_law 770 = .ok (.i2l, 1) := by decide +kernel
theorem dL_law_771 : decode cL_law 771 = .ok (.lcmp, 1) := by decide +kernel
theorem dL_law_772 : decode cL_law 772 = .ok (.ifCond .eq 5, 3) := by decide +kernel
theorem dL_law_775 : decode cL_law 775 = .ok (.iconst 0, 1) := by decide +kernel
theorem dL_law_776 : decode cL_law 776 = .ok (.ireturn, 1) := by decide +kernel
theorem dL_law_777 : decode cL_law 777 = .ok (.goto 475, 3) := by decide +kernel
theorem dL_law_780 : decode cL_law 780 = .ok (.aload_n 1, 1) := by decide +kernel
theorem dL_law_781 : decode cL_law 781 = .ok (.aload_n 0, 1) := by decide +kernel
theorem dL_law_782 : decode cL_law 782 = .ok (.iload 4, 2) := by decide +kernel
theorem dL_law_784 : decode cL_law 784 = .ok (.iconst 1, 1) := by decide +kernel
theorem dL_law_785 : decode cL_law 785 = .ok (.iadd, 1) := by decide +kernel
theorem dL_law_786 : decode cL_law 786 = .ok (.iaload, 1) := by decide +kernel
theorem dL_law_787 : decode cL_law 787 = .ok (.aload_n 0, 1) := by decide +kernel
theorem dL_law_788 : decode cL_law 788 = .ok (.iload 4, 2) := by decide +kernel
theorem dL_law_790 : decode cL_law 790 = .ok (.iconst 2, 1) := by decide +kernel
theorem dL_law_791 : decode cL_law 791 = .ok (.iadd, 1) := by decide +kernel
theorem dL_law_792 : decode cL_law 792 = .ok (.iaload, 1) := by decide +kernel
theorem dL_law_793 : decode cL_law 793 = .ok (.aload_n 3, 1) := by decide +kernel
theorem dL_law_794 : decode cL_law 794 = .ok (.invokestatic 123, 3) := by decide +kernel
theorem dL_law_797 : decode cL_law 797 = .ok (.istore 5, 2) := by decide +kernel
theorem dL_law_799 : decode cL_law 799 = .ok (.aload_n 2, 1) := by decide +kernel
theorem dL_law_800 : decode cL_law 800 = .ok (.aload_n 0, 1) := by decide +kernel
theorem dL_law_801 : decode cL_law 801 = .ok (.iload 4, 2) := by decide +kernel
theorem dL_law_803 : decode cL_law 803 = .ok (.iconst 1, 1) := by decide +kernel
theorem dL_law_804 : decode cL_law 804 = .ok (.iadd, 1) := by decide +kernel
theorem dL_law_805 : decode cL_law 805 = .ok (.iaload, 1) := by decide +kernel
theorem dL_law_806 : decode cL_law 806 = .ok (.aload_n 0, 1) := by decide +kernel
theorem dL_law_807 : decode cL_law 807 = .ok (.iload 4, 2) := by decide +kernel
theorem dL_law_809 : decode cL_law 809 = .ok (.iconst 2, 1) := by decide +kernel
theorem dL_law_810 : decode cL_law 810 = .ok (.iadd, 1) := by decide +kernel
theorem dL_law_811 : decode cL_law 811 = .ok (.iaload, 1) := by decide +kernel
theorem dL_law_812 : decode cL_law 812 = .ok (.invokevirtual 125, 3) := by decide +kernel
theorem dL_law_815 : decode cL_law 815 = .ok (.istore 6, 2) := by decide +kernel
theorem dL_law_817 : decode cL_law 817 = .ok (.aload_n 2, 1) := by decide +kernel
theorem dL_law_818 : decode cL_law 818 = .ok (.invokevirtual 78, 3) := by decide +kernel
theorem dL_law_821 : decode cL_law 821 = .ok (.iload 5, 2) := by decide +kernel
theorem dL_law_823 : decode cL_law 823 = .ok (.if_icmp .eq 5, 3) := by decide +kernel
theorem dL_law_826 : decode cL_law 826 = .ok (.iconst 0, 1) := by decide +kernel
theorem dL_law_827 : decode cL_law 827 = .ok (.ireturn, 1) := by decide +kernel
theorem dL_law_828 : decode cL_law 828 = .ok (.iload 5, 2) := by decide +kernel
theorem dL_law_830 : decode cL_law 830 = .ok (.ifCond .ne 15, 3) := by decide +kernel
theorem dL_law_833 : decode cL_law 833 = .ok (.aload_n 3, 1) := by decide +kernel
theorem dL_law_834 : decode cL_law 834 = .ok (.iconst 0, 1) := by decide +kernel
theorem dL_law_835 : decode cL_law 835 = .ok (.laload, 1) := by decide +kernel
theorem dL_law_836 : decode cL_law 836 = .ok (.iload 6, 2) := by decide +kernel
theorem dL_law_838 : decode cL_law 838 = .ok (.i2l, 1) := by decide +kernel
theorem dL_law_839 : decode cL_law 839 = .ok (.lcmp, 1) := by decide +kernel
theorem dL_law_840 : decode cL_law 840 = .ok (.ifCond .eq 5, 3) := by decide +kernel
theorem dL_law_843 : decode cL_law 843 = .ok (.iconst 0, 1) := by decide +kernel
theorem dL_law_844 : decode cL_law 844 = .ok (.ireturn, 1) := by decide +kernel
theorem dL_law_845 : decode cL_law 845 = .ok (.goto 407, 3) := by decide +kernel
theorem dL_law_848 : decode cL_law 848 = .ok (.aload_n 1, 1) := by decide +kernel
theorem dL_law_849 : decode cL_law 849 = .ok (.aload_n 0, 1) := by decide +kernel
theorem dL_law_850 : decode cL_law 850 = .ok (.iload 4, 2) := by decide +kernel
theorem dL_law_852 : decode cL_law 852 = .ok (.iconst 1, 1) := by decide +kernel
theorem dL_law_853 : decode cL_law 853 = .ok (.iadd, 1) := by decide +kernel
theorem dL_law_854 : decode cL_law 854 = .ok (.iaload, 1) := by decide +kernel
theorem dL_law_855 : decode cL_law 855 = .ok (.aload_n 3, 1) := by decide +kernel
theorem dL_law_856 : decode cL_law 856 = .ok (.invokestatic 126, 3) := by decide +kernel
theorem dL_law_859 : decode cL_law 859 = .ok (.istore 5, 2) := by decide +kernel
theorem dL_law_861 : decode cL_law 861 = .ok (.aload_n 2, 1) := by decide +kernel
theorem dL_law_862 : decode cL_law 862 = .ok (.aload_n 0, 1) := by decide +kernel
theorem dL_law_863 : decode cL_law 863 = .ok (.iload 4, 2) := by decide +kernel
theorem dL_law_865 : decode cL_law 865 = .ok (.iconst 1, 1) := by decide +kernel
theorem dL_law_866 : decode cL_law 866 = .ok (.iadd, 1) := by decide +kernel
theorem dL_law_867 : decode cL_law 867 = .ok (.iaload, 1) := by decide +kernel
theorem dL_law_868 : decode cL_law 868 = .ok (.invokevirtual 128, 3) := by decide +kernel
theorem dL_law_871 : decode cL_law 871 = .ok (.istore 6, 2) := by decide +kernel
theorem dL_law_873 : decode cL_law 873 = .ok (.aload_n 2, 1) := by decide +kernel
theorem dL_law_874 : decode cL_law 874 = .ok (.invokevirtual 78, 3) := by decide +kernel
theorem dL_law_877 : decode cL_law 877 = .ok (.iload 5, 2) := by decide +kernel
theorem dL_law_879 : decode cL_law 879 = .ok (.if_icmp .eq 5, 3) := by decide +kernel
theorem dL_law_882 : decode cL_law 882 = .ok (.iconst 0, 1) := by decide +kernel
theorem dL_law_883 : decode cL_law 883 = .ok (.ireturn, 1) := by decide +kernel
theorem dL_law_884 : decode cL_law 884 = .ok (.iload 5, 2) := by decide +kernel
theorem dL_law_886 : decode cL_law 886 = .ok (.ifCond .ne 15, 3) := by decide +kernel
theorem dL_law_889 : decode cL_law 889 = .ok (.aload_n 3, 1) := by decide +kernel
theorem dL_law_890 : decode cL_law 890 = .ok (.iconst 0, 1) := by decide +kernel
theorem dL_law_891 : decode cL_law 891 = .ok (.laload, 1) := by decide +kernel
theorem dL_law_892 : decode cL_law 892 = .ok (.iload 6, 2) := by decide +kernel
theorem dL_law_894 : decode cL_law 894 = .ok (.i2l, 1) := by decide +kernel
theorem dL_law_895 : decode cL_law 895 = .ok (.lcmp, 1) := by decide +kernel
theorem dL_law_896 : decode cL_law 896 = .ok (.ifCond .eq 5, 3) := by decide +kernel
theorem dL_law_899 : decode cL_law 899 = .ok (.iconst 0, 1) := by decide +kernel
theorem dL_law_900 : decode cL_law 900 = .ok (.ireturn, 1) := by decide +kernel
theorem dL_law_901 : decode cL_law 901 = .ok (.goto 351, 3) := by decide +kernel
theorem dL_law_904 : decode cL_law 904 = .ok (.aload_n 1, 1) := by decide +kernel
theorem dL_law_905 : decode cL_law 905 = .ok (.aload_n 0, 1) := by decide +kernel
theorem dL_law_906 : decode cL_law 906 = .ok (.iload 4, 2) := by decide +kernel
theorem dL_law_908 : decode cL_law 908 = .ok (.iconst 1, 1) := by decide +kernel
theorem dL_law_909 : decode cL_law 909 = .ok (.iadd, 1) := by decide +kernel
theorem dL_law_910 : decode cL_law 910 = .ok (.iaload, 1) := by decide +kernel
theorem dL_law_911 : decode cL_law 911 = .ok (.aload_n 3, 1) := by decide +kernel
theorem dL_law_912 : decode cL_law 912 = .ok (.invokestatic 129, 3) := by decide +kernel
theorem dL_law_915 : decode cL_law 915 = .ok (.istore 5, 2) := by decide +kernel
theorem dL_law_917 : decode cL_law 917 = .ok (.aload_n 2, 1) := by decide +kernel
theorem dL_law_918 : decode cL_law 918 = .ok (.aload_n 0, 1) := by decide +kernel
theorem dL_law_919 : decode cL_law 919 = .ok (.iload 4, 2) := by decide +kernel
theorem dL_law_921 : decode cL_law 921 = .ok (.iconst 1, 1) := by decide +kernel
theorem dL_law_922 : decode cL_law 922 = .ok (.iadd, 1) := by decide +kernel
theorem dL_law_923 : decode cL_law 923 = .ok (.iaload, 1) := by decide +kernel
theorem dL_law_924 : decode cL_law 924 = .ok (.invokevirtual 131, 3) := by decide +kernel
theorem dL_law_927 : decode cL_law 927 = .ok (.istore 6, 2) := by decide +kernel
theorem dL_law_929 : decode cL_law 929 = .ok (.aload_n 2, 1) := by decide +kernel
theorem dL_law_930 : decode cL_law 930 = .ok (.invokevirtual 78, 3) := by decide +kernel
theorem dL_law_933 : decode cL_law 933 = .ok (.iload 5, 2) := by decide +kernel
theorem dL_law_935 : decode cL_law 935 = .ok (.if_icmp .eq 5, 3) := by decide +kernel
theorem dL_law_938 : decode cL_law 938 = .ok (.iconst 0, 1) := by decide +kernel
theorem dL_law_939 : decode cL_law 939 = .ok (.ireturn, 1) := by decide +kernel
theorem dL_law_940 : decode cL_law 940 = .ok (.iload 5, 2) := by decide +kernel
theorem dL_law_942 : decode cL_law 942 = .ok (.ifCond .ne 15, 3) := by decide +kernel
theorem dL_law_945 : decode cL_law 945 = .ok (.aload_n 3, 1) := by decide +kernel
theorem dL_law_946 : decode cL_law 946 = .ok (.iconst 0, 1) := by decide +kernel
theorem dL_law_947 : decode cL_law 947 = .ok (.laload, 1) := by decide +kernel
theorem dL_law_948 : decode cL_law 948 = .ok (.iload 6, 2) := by decide +kernel
theorem dL_law_950 : decode cL_law 950 = .ok (.i2l, 1) := by decide +kernel
theorem dL_law_951 : decode cL_law 951 = .ok (.lcmp, 1) := by decide +kernel
theorem dL_law_952 : decode cL_law 952 = .ok (.ifCond .eq 5, 3) := by decide +kernel
theorem dL_law_955 : decode cL_law 955 = .ok (.iconst 0, 1) := by decide +kernel
theorem dL_law_956 : decode cL_law 956 = .ok (.ireturn, 1) := by decide +kernel
theorem dL_law_957 : decode cL_law 957 = .ok (.goto 295, 3) := by decide +kernel
theorem dL_law_960 : decode cL_law 960 = .ok (.aload_n 1, 1) := by decide +kernel
theorem dL_law_961 : decode cL_law 961 = .ok (.aload_n 0, 1) := by decide +kernel
theorem dL_law_962 : decode cL_law 962 = .ok (.iload 4, 2) := by decide +kernel
theorem dL_law_964 : decode cL_law 964 = .ok (.iconst 1, 1) := by decide +kernel
theorem dL_law_965 : decode cL_law 965 = .ok (.iadd, 1) := by decide +kernel
theorem dL_law_966 : decode cL_law 966 = .ok (.iaload, 1) := by decide +kernel
theorem dL_law_967 : decode cL_law 967 = .ok (.aload_n 3, 1) := by decide +kernel
theorem dL_law_968 : decode cL_law 968 = .ok (.invokestatic 132, 3) := by decide +kernel
theorem dL_law_971 : decode cL_law 971 = .ok (.istore 5, 2) := by decide +kernel
theorem dL_law_973 : decode cL_law 973 = .ok (.aload_n 2, 1) := by decide +kernel
theorem dL_law_974 : decode cL_law 974 = .ok (.aload_n 0, 1) := by decide +kernel
theorem dL_law_975 : decode cL_law 975 = .ok (.iload 4, 2) := by decide +kernel
theorem dL_law_977 : decode cL_law 977 = .ok (.iconst 1, 1) := by decide +kernel
theorem dL_law_978 : decode cL_law 978 = .ok (.iadd, 1) := by decide +kernel
theorem dL_law_979 : decode cL_law 979 = .ok (.iaload, 1) := by decide +kernel
theorem dL_law_980 : decode cL_law 980 = .ok (.invokevirtual 134, 3) := by decide +kernel
theorem dL_law_983 : decode cL_law 983 = .ok (.istore 6, 2) := by decide +kernel
theorem dL_law_985 : decode cL_law 985 = .ok (.aload_n 2, 1) := by decide +kernel
theorem dL_law_986 : decode cL_law 986 = .ok (.invokevirtual 78, 3) := by decide +kernel
theorem dL_law_989 : decode cL_law 989 = .ok (.iload 5, 2) := by decide +kernel
theorem dL_law_991 : decode cL_law 991 = .ok (.if_icmp .eq 5, 3) := by decide +kernel
theorem dL_law_994 : decode cL_law 994 = .ok (.iconst 0, 1) := by decide +kernel
theorem dL_law_995 : decode cL_law 995 = .ok (.ireturn, 1) := by decide +kernel
theorem dL_law_996 : decode cL_law 996 = .ok (.iload 5, 2) := by decide +kernel
theorem dL_law_998 : decode cL_law 998 = .ok (.ifCond .ne 15, 3) := by decide +kernel
theorem dL_law_1001 : decode cL_law 1001 = .ok (.aload_n 3, 1) := by decide +kernel
theorem dL_law_1002 : decode cL_law 1002 = .ok (.iconst 0, 1) := by decide +kernel
theorem dL_law_1003 : decode cL_law 1003 = .ok (.laload, 1) := by decide +kernel
theorem dL_law_1004 : decode cL_law 1004 = .ok (.iload 6, 2) := by decide +kernel
theorem dL_law_1006 : decode cL_law 1006 = .ok (.i2l, 1) := by decide +kernel
theorem dL_law_1007 : decode cL_law 1007 = .ok (.lcmp, 1) := by decide +kernel
theorem dL_law_1008 : decode cL_law 1008 = .ok (.ifCond .eq 5, 3) := by decide +kernel
theorem dL_law_1011 : decode cL_law 1011 = .ok (.iconst 0, 1) := by decide +kernel
theorem dL_law_1012 : decode cL_law 1012 = .ok (.ireturn, 1) := by decide +kernel
theorem dL_law_1013 : decode cL_law 1013 = .ok (.goto 239, 3) := by decide +kernel
theorem dL_law_1016 : decode cL_law 1016 = .ok (.aload_n 1, 1) := by decide +kernel
theorem dL_law_1017 : decode cL_law 1017 = .ok (.aload_n 0, 1) := by decide +kernel
theorem dL_law_1018 : decode cL_law 1018 = .ok (.iload 4, 2) := by decide +kernel
theorem dL_law_1020 : decode cL_law 1020 = .ok (.iconst 1, 1) := by decide +kernel
theorem dL_law_1021 : decode cL_law 1021 = .ok (.iadd, 1) := by decide +kernel
theorem dL_law_1022 : decode cL_law 1022 = .ok (.iaload, 1) := by decide +kernel
theorem dL_law_1023 : decode cL_law 1023 = .ok (.aload_n 3, 1) := by decide +kernel
theorem dL_law_1024 : decode cL_law 1024 = .ok (.invokestatic 135, 3) := by decide +kernel
theorem dL_law_1027 : decode cL_law 1027 = .ok (.istore 5, 2) := by decide +kernel
theorem dL_law_1029 : decode cL_law 1029 = .ok (.aload_n 2, 1) := by decide +kernel
theorem dL_law_1030 : decode cL_law 1030 = .ok (.aload_n 0, 1) := by decide +kernel
theorem dL_law_1031 : decode cL_law 1031 = .ok (.iload 4, 2) := by decide +kernel
theorem dL_law_1033 : decode cL_law 1033 = .ok (.iconst 1, 1) := by decide +kernel
theorem dL_law_1034 : decode cL_law 1034 = .ok (.iadd, 1) := by decide +kernel
theorem dL_law_1035 : decode cL_law 1035 = .ok (.iaload, 1) := by decide +kernel
theorem dL_law_1036 : decode cL_law 1036 = .ok (.invokevirtual 137, 3) := by decide +kernel
theorem dL_law_1039 : decode cL_law 1039 = .ok (.istore 6, 2) := by decide +kernel
theorem dL_law_1041 : decode cL_law 1041 = .ok (.aload_n 2, 1) := by decide +kernel
theorem dL_law_1042 : decode cL_law 1042 = .ok (.invokevirtual 78, 3) := by decide +kernel
theorem dL_law_1045 : decode cL_law 1045 = .ok (.iload 5, 2) := by decide +kernel
theorem dL_law_1047 : decode cL_law 1047 = .ok (.if_icmp .eq 5, 3) := by decide +kernel
theorem dL_law_1050 : decode cL_law 1050 = .ok (.iconst 0, 1) := by decide +kernel
theorem dL_law_1051 : decode cL_law 1051 = .ok (.ireturn, 1) := by decide +kernel
theorem dL_law_1052 : decode cL_law 1052 = .ok (.iload 5, 2) := by decide +kernel
theorem dL_law_1054 : decode cL_law 1054 = .ok (.ifCond .ne 15, 3) := by decide +kernel
theorem dL_law_1057 : decode cL_law 1057 = .ok (.aload_n 3, 1) := by decide +kernel
theorem dL_law_1058 : decode cL_law 1058 = .ok (.iconst 0, 1) := by decide +kernel
theorem dL_law_1059 : decode cL_law 1059 = .ok (.laload, 1) := by decide +kernel
theorem dL_law_1060 : decode cL_law 1060 = .ok (.iload 6, 2) := by decide +kernel
theorem dL_law_1062 : decode cL_law 1062 = .ok (.i2l, 1) := by decide +kernel
theorem dL_law_1063 : decode cL_law 1063 = .ok (.lcmp, 1) := by decide +kernel
theorem dL_law_1064 : decode cL_law 1064 = .ok (.ifCond .eq 5, 3) := by decide +kernel
theorem dL_law_1067 : decode cL_law 1067 = .ok (.iconst 0, 1) := by decide +kernel
theorem dL_law_1068 : decode cL_law 1068 = .ok (.ireturn, 1) := by decide +kernel
theorem dL_law_1069 : decode cL_law 1069 = .ok (.goto 183, 3) := by decide +kernel
theorem dL_law_1072 : decode cL_law 1072 = .ok (.aload_n 1, 1) := by decide +kernel
theorem dL_law_1073 : decode cL_law 1073 = .ok (.aload_n 0, 1) := by decide +kernel
theorem dL_law_1074 : decode cL_law 1074 = .ok (.iload 4, 2) := by decide +kernel
theorem dL_law_1076 : decode cL_law 1076 = .ok (.iconst 1, 1) := by decide +kernel
theorem dL_law_1077 : decode cL_law 1077 = .ok (.iadd, 1) := by decide +kernel
theorem dL_law_1078 : decode cL_law 1078 = .ok (.iaload, 1) := by decide +kernel
theorem dL_law_1079 : decode cL_law 1079 = .ok (.aload_n 3, 1) := by decide +kernel
theorem dL_law_1080 : decode cL_law 1080 = .ok (.invokestatic 138, 3) := by decide +kernel
theorem dL_law_1083 : decode cL_law 1083 = .ok (.istore 5, 2) := by decide +kernel
theorem dL_law_1085 : decode cL_law 1085 = .ok (.aload_n 2, 1) := by decide +kernel
theorem dL_law_1086 : decode cL_law 1086 = .ok (.aload_n 0, 1) := by decide +kernel
theorem dL_law_1087 : decode cL_law 1087 = .ok (.iload 4, 2) := by decide +kernel
theorem dL_law_1089 : decode cL_law 1089 = .ok (.iconst 1, 1) := by decide +kernel
theorem dL_law_1090 : decode cL_law 1090 = .ok (.iadd, 1) := by decide +kernel
theorem dL_law_1091 : decode cL_law 1091 = .ok (.iaload, 1) := by decide +kernel
theorem dL_law_1092 : decode cL_law 1092 = .ok (.invokevirtual 140, 3) := by decide +kernel
theorem dL_law_1095 : decode cL_law 1095 = .ok (.istore 6, 2) := by decide +kernel
theorem dL_law_1097 : decode cL_law 1097 = .ok (.aload_n 2, 1) := by decide +kernel
theorem dL_law_1098 : decode cL_law 1098 = .ok (.invokevirtual 78, 3) := by decide +kernel
theorem dL_law_1101 : decode cL_law 1101 = .ok (.iload 5, 2) := by decide +kernel
theorem dL_law_1103 : decode cL_law 1103 = .ok (.if_icmp .eq 5, 3) := by decide +kernel
theorem dL_law_1106 : decode cL_law 1106 = .ok (.iconst 0, 1) := by decide +kernel
theorem dL_law_1107 : decode cL_law 1107 = .ok (.ireturn, 1) := by decide +kernel
theorem dL_law_1108 : decode cL_law 1108 = .ok (.iload 5, 2) := by decide +kernel
theorem dL_law_1110 : decode cL_law 1110 = .ok (.ifCond .ne 15, 3) := by decide +kernel
theorem dL_law_1113 : decode cL_law 1113 = .ok (.aload_n 3, 1) := by decide +kernel
theorem dL_law_1114 : decode cL_law 1114 = .ok (.iconst 0, 1) := by decide +kernel
theorem dL_law_1115 : decode cL_law 1115 = .ok (.laload, 1) := by decide +kernel
theorem dL_law_1116 : decode cL_law 1116 = .ok (.iload 6, 2) := by decide +kernel
theorem dL_law_1118 : decode cL_law 1118 = .ok (.i2l, 1) := by decide +kernel
theorem dL_law_1119 : decode cL_law 1119 = .ok (.lcmp, 1) := by decide +kernel
theorem dL_law_1120 : decode cL_law 1120 = .ok (.ifCond .eq 5, 3) := by decide +kernel
theorem dL_law_1123 : decode cL_law 1123 = .ok (.iconst 0, 1) := by decide +kernel
theorem dL_law_1124 : decode cL_law 1124 = .ok (.ireturn, 1) := by decide +kernel
theorem dL_law_1125 : decode cL_law 1125 = .ok (.goto 127, 3) := by decide +kernel
theorem dL_law_1128 : decode cL_law 1128 = .ok (.aload_n 1, 1) := by decide +kernel
theorem dL_law_1129 : decode cL_law 1129 = .ok (.aload_n 0, 1) := by decide +kernel
theorem dL_law_1130 : decode cL_law 1130 = .ok (.iload 4, 2) := by decide +kernel
theorem dL_law_1132 : decode cL_law 1132 = .ok (.iconst 1, 1) := by decide +kernel
theorem dL_law_1133 : decode cL_law 1133 = .ok (.iadd, 1) := by decide +kernel
theorem dL_law_1134 : decode cL_law 1134 = .ok (.iaload, 1) := by decide +kernel
theorem dL_law_1135 : decode cL_law 1135 = .ok (.aload_n 0, 1) := by decide +kernel
theorem dL_law_1136 : decode cL_law 1136 = .ok (.iload 4, 2) := by decide +kernel
theorem dL_law_1138 : decode cL_law 1138 = .ok (.iconst 2, 1) := by decide +kernel
theorem dL_law_1139 : decode cL_law 1139 = .ok (.iadd, 1) := by decide +kernel
theorem dL_law_1140 : decode cL_law 1140 = .ok (.iaload, 1) := by decide +kernel
theorem dL_law_1141 : decode cL_law 1141 = .ok (.aload_n 3, 1) := by decide +kernel
theorem dL_law_1142 : decode cL_law 1142 = .ok (.invokestatic 141, 3) := by decide +kernel
theorem dL_law_1145 : decode cL_law 1145 = .ok (.istore 5, 2) := by decide +kernel
theorem dL_law_1147 : decode cL_law 1147 = .ok (.aload_n 2, 1) := by decide +kernel
theorem dL_law_1148 : decode cL_law 1148 = .ok (.aload_n 0, 1) := by decide +kernel
theorem dL_law_1149 : decode cL_law 1149 = .ok (.iload 4, 2) := by decide +kernel
theorem dL_law_1151 : decode cL_law 1151 = .ok (.iconst 1, 1) := by decide +kernel
theorem dL_law_1152 : decode cL_law 1152 = .ok (.iadd, 1) := by decide +kernel
theorem dL_law_1153 : decode cL_law 1153 = .ok (.iaload, 1) := by decide +kernel
theorem dL_law_1154 : decode cL_law 1154 = .ok (.aload_n 0, 1) := by decide +kernel
theorem dL_law_1155 : decode cL_law 1155 = .ok (.iload 4, 2) := by decide +kernel
theorem dL_law_1157 : decode cL_law 1157 = .ok (.iconst 2, 1) := by decide +kernel
theorem dL_law_1158 : decode cL_law 1158 = .ok (.iadd, 1) := by decide +kernel
theorem dL_law_1159 : decode cL_law 1159 = .ok (.iaload, 1) := by decide +kernel
theorem dL_law_1160 : decode cL_law 1160 = .ok (.invokevirtual 143, 3) := by decide +kernel
theorem dL_law_1163 : decode cL_law 1163 = .ok (.istore 6, 2) := by decide +kernel
theorem dL_law_1165 : decode cL_law 1165 = .ok (.aload_n 2, 1) := by decide +kernel
theorem dL_law_1166 : decode cL_law 1166 = .ok (.invokevirtual 78, 3) := by decide +kernel
theorem dL_law_1169 : decode cL_law 1169 = .ok (.iload 5, 2) := by decide +kernel
theorem dL_law_1171 : decode cL_law 1171 = .ok (.if_icmp .eq 5, 3) := by decide +kernel
theorem dL_law_1174 : decode cL_law 1174 = .ok (.iconst 0, 1) := by decide +kernel
theorem dL_law_1175 : decode cL_law 1175 = .ok (.ireturn, 1) := by decide +kernel
theorem dL_law_1176 : decode cL_law 1176 = .ok (.iload 5, 2) := by decide +kernel
theorem dL_law_1178 : decode cL_law 1178 = .ok (.ifCond .ne 15, 3) := by decide +kernel
theorem dL_law_1181 : decode cL_law 1181 = .ok (.aload_n 3, 1) := by decide +kernel
theorem dL_law_1182 : decode cL_law 1182 = .ok (.iconst 0, 1) := by decide +kernel
theorem dL_law_1183 : decode cL_law 1183 = .ok (.laload, 1) := by decide +kernel
theorem dL_law_1184 : decode cL_law 1184 = .ok (.iload 6, 2) := by decide +kernel
theorem dL_law_1186 : decode cL_law 1186 = .ok (.i2l, 1) := by decide +kernel
theorem dL_law_1187 : decode cL_law 1187 = .ok (.lcmp, 1) := by decide +kernel
theorem dL_law_1188 : decode cL_law 1188 = .ok (.ifCond .eq 5, 3) := by decide +kernel
theorem dL_law_1191 : decode cL_law 1191 = .ok (.iconst 0, 1) := by decide +kernel
theorem dL_law_1192 : decode cL_law 1192 = .ok (.ireturn, 1) := by decide +kernel
theorem dL_law_1193 : decode cL_law 1193 = .ok (.goto 59, 3) := by decide +kernel
theorem dL_law_1196 : decode cL_law 1196 = .ok (.aload_n 1, 1) := by decide +kernel
theorem dL_law_1197 : decode cL_law 1197 = .ok (.aload_n 0, 1) := by decide +kernel
theorem dL_law_1198 : decode cL_law 1198 = .ok (.iload 4, 2) := by decide +kernel
theorem dL_law_1200 : decode cL_law 1200 = .ok (.iconst 1, 1) := by decide +kernel
theorem dL_law_1201 : decode cL_law 1201 = .ok (.iadd, 1) := by decide +kernel
theorem dL_law_1202 : decode cL_law 1202 = .ok (.iaload, 1) := by decide +kernel
theorem dL_law_1203 : decode cL_law 1203 = .ok (.aload_n 3, 1) := by decide +kernel
theorem dL_law_1204 : decode cL_law 1204 = .ok (.invokestatic 144, 3) := by decide +kernel
theorem dL_law_1207 : decode cL_law 1207 = .ok (.istore 5, 2) := by decide +kernel
theorem dL_law_1209 : decode cL_law 1209 = .ok (.aload_n 2, 1) := by decide +kernel
theorem dL_law_1210 : decode cL_law 1210 = .ok (.aload_n 0, 1) := by decide +kernel
theorem dL_law_1211 : decode cL_law 1211 = .ok (.iload 4, 2) := by decide +kernel
theorem dL_law_1213 : decode cL_law 1213 = .ok (.iconst 1, 1) := by decide +kernel
theorem dL_law_1214 : decode cL_law 1214 = .ok (.iadd, 1) := by decide +kernel
theorem dL_law_1215 : decode cL_law 1215 = .ok (.iaload, 1) := by decide +kernel
theorem dL_law_1216 : decode cL_law 1216 = .ok (.invokevirtual 146, 3) := by decide +kernel
theorem dL_law_1219 : decode cL_law 1219 = .ok (.istore 6, 2) := by decide +kernel
theorem dL_law_1221 : decode cL_law 1221 = .ok (.aload_n 2, 1) := by decide +kernel
theorem dL_law_1222 : decode cL_law 1222 = .ok (.invokevirtual 78, 3) := by decide +kernel
theorem dL_law_1225 : decode cL_law 1225 = .ok (.iload 5, 2) := by decide +kernel
theorem dL_law_1227 : decode cL_law 1227 = .ok (.if_icmp .eq 5, 3) := by decide +kernel
theorem dL_law_1230 : decode cL_law 1230 = .ok (.iconst 0, 1) := by decide +kernel
theorem dL_law_1231 : decode cL_law 1231 = .ok (.ireturn, 1) := by decide +kernel
theorem dL_law_1232 : decode cL_law 1232 = .ok (.iload 5, 2) := by decide +kernel
theorem dL_law_1234 : decode cL_law 1234 = .ok (.ifCond .ne 15, 3) := by decide +kernel
theorem dL_law_1237 : decode cL_law 1237 = .ok (.aload_n 3, 1) := by decide +kernel
theorem dL_law_1238 : decode cL_law 1238 = .ok (.iconst 0, 1) := by decide +kernel
theorem dL_law_1239 : decode cL_law 1239 = .ok (.laload, 1) := by decide +kernel
theorem dL_law_1240 : decode cL_law 1240 = .ok (.iload 6, 2) := by decide +kernel
theorem dL_law_1242 : decode cL_law 1242 = .ok (.i2l, 1) := by decide +kernel
theorem dL_law_1243 : decode cL_law 1243 = .ok (.lcmp, 1) := by decide +kernel
theorem dL_law_1244 : decode cL_law 1244 = .ok (.ifCond .eq 5, 3) := by decide +kernel
theorem dL_law_1247 : decode cL_law 1247 = .ok (.iconst 0, 1) := by decide +kernel
theorem dL_law_1248 : decode cL_law 1248 = .ok (.ireturn, 1) := by decide +kernel
theorem dL_law_1249 : decode cL_law 1249 = .ok (.goto 3, 3) := by decide +kernel
theorem dL_law_1252 : decode cL_law 1252 = .ok (.iinc 4 5, 3) := by decide +kernel
theorem dL_law_1255 : decode cL_law 1255 = .ok (.goto (-1232), 3) := by decide +kernel
theorem dL_law_1258 : decode cL_law 1258 = .ok (.iconst 1, 1) := by decide +kernel
theorem dL_law_1259 : decode cL_law 1259 = .ok (.ireturn, 1) := by decide +kernel
abbrev vwCl : List vw_C := [(RX0, TX0, 7), (RX1, TX1, 2), (RX2, TX2, 7), (RX3, TX3, 4), (RX4, TX4, 3), (RX5, TX5, 6), (RX6, TX6, 24)]
end
section
/-! Rows over symbolic worlds: hl_X: at this frame with this world, whatever the heap. Turned from the kit's one-instruction laws. -/
def hl_ty (cI cZ cJ : ClassId) : List (ClassId × FieldType) := [(cI, .int), (cZ, .boolean), (cJ, .long)]
def hl_C (p : Program) (s : State) (m : MethodId) (args : Array Value) (c : Code) (cc : ByteArray) (nL : Nat) (Ts : List Cond) (own : String) (D : va_G) (tys : List (ClassId × FieldType)) (A : Nat → Prop) : Prop :=
  p.tables.exec = Jvm.exec ∧ c.code = cc ∧ c.maxLocals = nL ∧ s.vm.findClass own = some m.cls ∧ (∀ w ∈ Ts, w.before args s = true) ∧ va_K D vwCl tys s ∧ ∀ q : Nat, s.heap.size ≤ q → A q
def hl_X (p : Program) (l : Launch) (e : Env) (R : Room) (s : State) (m : MethodId) (args : Array Value) (below : List Frame) (meth : Method) (c : Code) (nL : Nat) (D : va_G) (A : Nat → Prop) (cells slots : Nat) (Q : State → Prop) (w : va_W) (pc : Nat) (ls : List (Nat × Value)) (st : List Value) : Prop :=
  ∀ (H : Heap) (locs : List Loc) (la : Array Slot), va_P D vwCl w H → va_D A w → va_S A s.heap H locs → lv_has la nL ls → W p l e R s m args below meth c H locs cells slots Q (F0 m pc la st)
section HLR
variable {p : Program} {l : Launch} {e : Env} {R : Room} {s : State} {m : MethodId} {args : Array Value} {below : List Frame} {meth : Method} {c : Code}
variable {cc : ByteArray} {nL : Nat} {Ts : List Cond} {own : String} {D : va_G} {tys : List (ClassId × FieldType)} {A : Nat → Prop} {cells slots : Nat} {Q : State → Prop} {w : va_W} {pc : Nat} {ls : List (Nat × Value)} {st : List Value}
theorem hl_iconst (h : hl_C p s m args c cc nL Ts own D tys A) {n : Int} (v : Int32) (hd : decode cc pc = .ok (.iconst n, 1)) (hv : Int32.ofInt n = v) (k : hl_X p l e R s m args below meth c nL D A cells slots Q w (pc + 1) ls (.int v :: st)) : hl_X p l e R s m args below meth c nL D A cells slots Q w pc ls st :=
  fun H locs la hP hD hS hl => lv_iconst h.1 h.2.1 hd hv (k H locs la hP hD hS hl)
theorem hl_bipush (h : hl_C p s m args c cc nL Ts own D tys A) {n : Int} (v : Int32) (hd : decode cc pc = .ok (.bipush n, 2)) (hv : (Int8.ofInt n).toInt32 = v) (k : hl_X p l e R s m args below meth c nL D A cells slots Q w (pc + 2) ls (.int v :: st)) : hl_X p l e R s m args below meth c nL D A cells slots Q w pc ls st :=
  fun H locs la hP hD hS hl => lv_bipush h.1 h.2.1 hd hv (k H locs la hP hD hS hl)
theorem hl_sipush (h : hl_C p s m args c cc nL Ts own D tys A) {n : Int} (v : Int32) (hd : decode cc pc = .ok (.sipush n, 3)) (hv : (Int16.ofInt n).toInt32 = v) (k : hl_X p l e R s m args below meth c nL D A cells slots Q w (pc + 3) ls (.int v :: st)) : hl_X p l e R s m args below meth c nL D A cells slots Q w pc ls st :=
  fun H locs la hP hD hS hl => lv_sipush h.1 h.2.1 hd hv (k H locs la hP hD hS hl)
theorem hl_iload_n (h : hl_C p s m args c cc nL Ts own D tys A) (k : Nat) {j : Fin 4} {x : Int32} (hd : decode cc pc = .ok (.iload_n j, 1)) (hk : ls[k]? = some ((j : Nat), .int x)) (kk : hl_X p l e R s m args below meth c nL D A cells slots Q w (pc + 1) ls (.int x :: st)) : hl_X p l e R s m args below meth c nL D A cells slots Q w pc ls st :=
  fun H locs la hP hD hS hl => lv_iload_n h.1 h.2.1 hd rfl (lv_at hl k hk) (kk H locs la hP hD hS hl)
theorem hl_iload (h : hl_C p s m args c cc nL Ts own D tys A) (k : Nat) {i : Nat} {x : Int32} (hd : decode cc pc = .ok (.iload i, 2)) (hk : ls[k]? = some (i, .int x)) (kk : hl_X p l e R s m args below meth c nL D A cells slots Q w (pc + 2) ls (.int x :: st)) : hl_X p l e R s m args below meth c nL D A cells slots Q w pc ls st :=
  fun H locs la hP hD hS hl => lv_iload h.1 h.2.1 hd (lv_at hl k hk) (kk H locs la hP hD hS hl)
theorem hl_aload_n (h : hl_C p s m args c cc nL Ts own D tys A) (k : Nat) {j : Fin 4} {x : Nat} (hd : decode cc pc = .ok (.aload_n j, 1)) (hk : ls[k]? = some ((j : Nat), .ref x)) (kk : hl_X p l e R s m args below meth c nL D A cells slots Q w (pc + 1) ls (.ref x :: st)) : hl_X p l e R s m args below meth c nL D A cells slots Q w pc ls st :=
  fun H locs la hP hD hS hl => lv_aload_n h.1 h.2.1 hd rfl (lv_at hl k hk) (kk H locs la hP hD hS hl)
theorem hl_aload (h : hl_C p s m args c cc nL Ts own D tys A) (k : Nat) {i : Nat} {x : Nat} (hd : decode cc pc = .ok (.aload i, 2)) (hk : ls[k]? = some (i, .ref x)) (kk : hl_X p l e R s m args below meth c nL D A cells slots Q w (pc + 2) ls (.ref x :: st)) : hl_X p l e R s m args below meth c nL D A cells slots Q w pc ls st :=
  fun H locs la hP hD hS hl => lv_aload h.1 h.2.1 hd (lv_at hl k hk) (kk H locs la hP hD hS hl)
theorem hl_istore_n (h : hl_C p s m args c cc nL Ts own D tys A) (lv' : List (Nat × Value)) {j : Fin 4} {x : Int32} (hd : decode cc pc = .ok (.istore_n j, 1)) (hn : (j : Nat) < nL) (hl' : ((j : Nat), Value.int x) :: ls.filter (fun q => !(q.1 == (j : Nat)) && !(q.1 + 1 == (j : Nat) && q.2.category == 2)) = lv') (k : hl_X p l e R s m args below meth c nL D A cells slots Q w (pc + 1) lv' st) : hl_X p l e R s m args below meth c nL D A cells slots Q w pc ls (.int x :: st) :=
  fun H locs la hP hD hS hl => lv_istore_n h.1 h.2.1 hd rfl hl hn hl' (fun la' hl2 => k H locs la' hP hD hS hl2)
theorem hl_istore (h : hl_C p s m args c cc nL Ts own D tys A) (lv' : List (Nat × Value)) {i : Nat} {x : Int32} (hd : decode cc pc = .ok (.istore i, 2)) (hn : i < nL) (hl' : (i, Value.int x) :: ls.filter (fun q => !(q.1 == i) && !(q.1 + 1 == i && q.2.category == 2)) = lv') (k : hl_X p l e R s m args below meth c nL D A cells slots Q w (pc + 2) lv' st) : hl_X p l e R s m args below meth c nL D A cells slots Q w pc ls (.int x :: st) :=
  fun H locs la hP hD hS hl => lv_istore h.1 h.2.1 hd hl hn hl' (fun la' hl2 => k H locs la' hP hD hS hl2)
theorem hl_astore_n (h : hl_C p s m args c cc nL Ts own D tys A) (lv' : List (Nat × Value)) {j : Fin 4} {x : Nat} (hd : decode cc pc = .ok (.astore_n j, 1)) (hn : (j : Nat) < nL) (hl' : ((j : Nat), Value.ref x) :: ls.filter (fun q => !(q.1 == (j : Nat)) && !(q.1 + 1 == (j : Nat) && q.2.category == 2)) = lv') (k : hl_X p l e R s m args below meth c nL D A cells slots Q w (pc + 1) lv' st) : hl_X p l e R s m args below meth c nL D A cells slots Q w pc ls (.ref x :: st) :=
  fun H locs la hP hD hS hl => lv_astore_n h.1 h.2.1 hd rfl hl hn hl' (fun la' hl2 => k H locs la' hP hD hS hl2)
theorem hl_astore (h : hl_C p s m args c cc nL Ts own D tys A) (lv' : List (Nat × Value)) {i : Nat} {x : Nat} (hd : decode cc pc = .ok (.astore i, 2)) (hn : i < nL) (hl' : (i, Value.ref x) :: ls.filter (fun q => !(q.1 == i) && !(q.1 + 1 == i && q.2.category == 2)) = lv') (k : hl_X p l e R s m args below meth c nL D A cells slots Q w (pc + 2) lv' st) : hl_X p l e R s m args below meth c nL D A cells slots Q w pc ls (.ref x :: st) :=
  fun H locs la hP hD hS hl => lv_astore h.1 h.2.1 hd hl hn hl' (fun la' hl2 => k H locs la' hP hD hS hl2)
theorem hl_iinc (h : hl_C p s m args c cc nL Ts own D tys A) (k : Nat) (v : Int32) (lv' : List (Nat × Value)) {i : Nat} {n : Int} {x : Int32} (hd : decode cc pc = .ok (.iinc i n, 3)) (hk : ls[k]? = some (i, .int x)) (hv : x + Int32.ofInt n = v) (hn : i < nL) (hl' : (i, Value.int v) :: ls.filter (fun q => !(q.1 == i) && !(q.1 + 1 == i && q.2.category == 2)) = lv') (kk : hl_X p l e R s m args below meth c nL D A cells slots Q w (pc + 3) lv' st) : hl_X p l e R s m args below meth c nL D A cells slots Q w pc ls st :=
  fun H locs la hP hD hS hl => lv_iinc h.1 h.2.1 hd hl hk hv hn hl' (fun la' hl2 => kk H locs la' hP hD hS hl2)
theorem hl_dup (h : hl_C p s m args c cc nL Ts own D tys A) {va : Value} (hd : decode cc pc = .ok (.dup, 1)) (hva : va.category = 1) (k : hl_X p l e R s m args below meth c nL D A cells slots Q w (pc + 1) ls (va :: va :: st)) : hl_X p l e R s m args below meth c nL D A cells slots Q w pc ls (va :: st) :=
  fun H locs la hP hD hS hl => lv_dup h.1 h.2.1 hd hva (k H locs la hP hD hS hl)
theorem hl_dup2 (h : hl_C p s m args c cc nL Ts own D tys A) {va vb : Value} (hd : decode cc pc = .ok (.dup2, 1)) (hva : va.category = 1) (hvb : vb.category = 1) (k : hl_X p l e R s m args below meth c nL D A cells slots Q w (pc + 1) ls (va :: vb :: va :: vb :: st)) : hl_X p l e R s m args below meth c nL D A cells slots Q w pc ls (va :: vb :: st) :=
  fun H locs la hP hD hS hl => lv_dup2_11 h.1 h.2.1 hd hva hvb (k H locs la hP hD hS hl)
theorem hl_iadd (h : hl_C p s m args c cc nL Ts own D tys A) {x y : Int32} (hd : decode cc pc = .ok (.iadd, 1)) (k : hl_X p l e R s m args below meth c nL D A cells slots Q w (pc + 1) ls (.int (x + y) :: st)) : hl_X p l e R s m args below meth c nL D A cells slots Q w pc ls (.int y :: .int x :: st) :=
  fun H locs la hP hD hS hl => lv_iadd h.1 h.2.1 hd (k H locs la hP hD hS hl)
theorem hl_isub (h : hl_C p s m args c cc nL Ts own D tys A) {x y : Int32} (hd : decode cc pc = .ok (.isub, 1)) (k : hl_X p l e R s m args below meth c nL D A cells slots Q w (pc + 1) ls (.int (x - y) :: st)) : hl_X p l e R s m args below meth c nL D A cells slots Q w pc ls (.int y :: .int x :: st) :=
  fun H locs la hP hD hS hl => lv_isub h.1 h.2.1 hd (k H locs la hP hD hS hl)
theorem hl_imul (h : hl_C p s m args c cc nL Ts own D tys A) {x y : Int32} (hd : decode cc pc = .ok (.imul, 1)) (k : hl_X p l e R s m args below meth c nL D A cells slots Q w (pc + 1) ls (.int (x * y) :: st)) : hl_X p l e R s m args below meth c nL D A cells slots Q w pc ls (.int y :: .int x :: st) :=
  fun H locs la hP hD hS hl => lv_imul h.1 h.2.1 hd (k H locs la hP hD hS hl)
theorem hl_iand (h : hl_C p s m args c cc nL Ts own D tys A) {x y : Int32} (hd : decode cc pc = .ok (.iand, 1)) (k : hl_X p l e R s m args below meth c nL D A cells slots Q w (pc + 1) ls (.int (x &&& y) :: st)) : hl_X p l e R s m args below meth c nL D A cells slots Q w pc ls (.int y :: .int x :: st) :=
  fun H locs la hP hD hS hl => lv_iand h.1 h.2.1 hd (k H locs la hP hD hS hl)
theorem hl_idiv (h : hl_C p s m args c cc nL Ts own D tys A) {x y : Int32} (hd : decode cc pc = .ok (.idiv, 1)) (hne : ¬ y = 0) (k : hl_X p l e R s m args below meth c nL D A cells slots Q w (pc + 1) ls (.int (x / y) :: st)) : hl_X p l e R s m args below meth c nL D A cells slots Q w pc ls (.int y :: .int x :: st) :=
  fun H locs la hP hD hS hl => lv_idiv h.1 h.2.1 hd hne (k H locs la hP hD hS hl)
theorem hl_irem (h : hl_C p s m args c cc nL Ts own D tys A) {x y : Int32} (hd : decode cc pc = .ok (.irem, 1)) (hne : ¬ y = 0) (k : hl_X p l e R s m args below meth c nL D A cells slots Q w (pc + 1) ls (.int (x - x / y * y) :: st)) : hl_X p l e R s m args below meth c nL D A cells slots Q w pc ls (.int y :: .int x :: st) :=
  fun H locs la hP hD hS hl => lv_irem h.1 h.2.1 hd hne (k H locs la hP hD hS hl)
theorem hl_i2l (h : hl_C p s m args c cc nL Ts own D tys A) {x : Int32} (hd : decode cc pc = .ok (.i2l, 1)) (k : hl_X p l e R s m args below meth c nL D A cells slots Q w (pc + 1) ls (.long x.toInt64 :: st)) : hl_X p l e R s m args below meth c nL D A cells slots Q w pc ls (.int x :: st) :=
  fun H locs la hP hD hS hl => lv_i2l h.1 h.2.1 hd rfl (k H locs la hP hD hS hl)
theorem hl_lcmp (h : hl_C p s m args c cc nL Ts own D tys A) {x y : Int64} (hd : decode cc pc = .ok (.lcmp, 1)) (k : hl_X p l e R s m args below meth c nL D A cells slots Q w (pc + 1) ls (.int (lg_cmp x y) :: st)) : hl_X p l e R s m args below meth c nL D A cells slots Q w pc ls (.long y :: .long x :: st) :=
  fun H locs la hP hD hS hl => W.lcmp h.1 h.2.1 hd (k H locs la hP hD hS hl)
theorem hl_goto (h : hl_C p s m args c cc nL Ts own D tys A) (tgt : Nat) {off : Int} (hd : decode cc pc = .ok (.goto off, 3)) (ht : (pc : Int) + off = (tgt : Int)) (k : hl_X p l e R s m args below meth c nL D A cells slots Q w tgt ls st) : hl_X p l e R s m args below meth c nL D A cells slots Q w pc ls st :=
  fun H locs la hP hD hS hl => lv_goto h.1 h.2.1 hd ht (k H locs la hP hD hS hl)
theorem hl_if_eq (h : hl_C p s m args c cc nL Ts own D tys A) (tgt : Nat) {x : Int32} {off : Int} (hd : decode cc pc = .ok (.ifCond .eq off, 3)) (ht : (pc : Int) + off = (tgt : Int)) (kt : (x = 0) → hl_X p l e R s m args below meth c nL D A cells slots Q w tgt ls st) (kf : ¬ x = 0 → hl_X p l e R s m args below meth c nL D A cells slots Q w (pc + 3) ls st) : hl_X p l e R s m args below meth c nL D A cells slots Q w pc ls (.int x :: st) :=
  fun H locs la hP hD hS hl => lv_if_eq h.1 h.2.1 hd ht (fun z => kt z H locs la hP hD hS hl) (fun z => kf z H locs la hP hD hS hl)
theorem hl_if_eq_T (h : hl_C p s m args c cc nL Ts own D tys A) (tgt : Nat) {x : Int32} {off : Int} (hd : decode cc pc = .ok (.ifCond .eq off, 3)) (ht : (pc : Int) + off = (tgt : Int)) (hc : (x = 0)) (kt : hl_X p l e R s m args below meth c nL D A cells slots Q w tgt ls st) : hl_X p l e R s m args below meth c nL D A cells slots Q w pc ls (.int x :: st) :=
  hl_if_eq h tgt hd ht (fun _ => kt) (fun z => absurd hc z)
theorem hl_if_eq_F (h : hl_C p s m args c cc nL Ts own D tys A) {x : Int32} {off : Int} (tgt : Nat) (hd : decode cc pc = .ok (.ifCond .eq off, 3)) (ht : (pc : Int) + off = (tgt : Int)) (hc : ¬ x = 0) (kf : hl_X p l e R s m args below meth c nL D A cells slots Q w (pc + 3) ls st) : hl_X p l e R s m args below meth c nL D A cells slots Q w pc ls (.int x :: st) :=
  hl_if_eq h tgt hd ht (fun z => absurd z hc) (fun _ => kf)
theorem hl_if_ne (h : hl_C p s m args c cc nL Ts own D tys A) (tgt : Nat) {x : Int32} {off : Int} (hd : decode cc pc = .ok (.ifCond .ne off, 3)) (ht : (pc : Int) + off = (tgt : Int)) (kt : (¬ x = 0) → hl_X p l e R s m args below meth c nL D A cells slots Q w tgt ls st) (kf : x = 0 → hl_X p l e R s m args below meth c nL D A cells slots Q w (pc + 3) ls st) : hl_X p l e R s m args below meth c nL D A cells slots Q w pc ls (.int x :: st) :=
  fun H locs la hP hD hS hl => lv_if_ne h.1 h.2.1 hd ht (fun z => kt z H locs la hP hD hS hl) (fun z => kf z H locs la hP hD hS hl)
theorem hl_if_ne_T (h : hl_C p s m args c cc nL Ts own D tys A) (tgt : Nat) {x : Int32} {off : Int} (hd : decode cc pc = .ok (.ifCond .ne off, 3)) (ht : (pc : Int) + off = (tgt : Int)) (hc : (¬ x = 0)) (kt : hl_X p l e R s m args below meth c nL D A cells slots Q w tgt ls st) : hl_X p l e R s m args below meth c nL D A cells slots Q w pc ls (.int x :: st) :=
  hl_if_ne h tgt hd ht (fun _ => kt) (fun z => absurd z hc)
theorem hl_if_ne_F (h : hl_C p s m args c cc nL Ts own D tys A) {x : Int32} {off : Int} (tgt : Nat) (hd : decode cc pc = .ok (.ifCond .ne off, 3)) (ht : (pc : Int) + off = (tgt : Int)) (hc : x = 0) (kf : hl_X p l e R s m args below meth c nL D A cells slots Q w (pc + 3) ls st) : hl_X p l e R s m args below meth c nL D A cells slots Q w pc ls (.int x :: st) :=
  hl_if_ne h tgt hd ht (fun z => absurd hc z) (fun _ => kf)
theorem hl_if_lt (h : hl_C p s m args c cc nL Ts own D tys A) (tgt : Nat) {x : Int32} {off : Int} (hd : decode cc pc = .ok (.ifCond .lt off, 3)) (ht : (pc : Int) + off = (tgt : Int)) (kt : (x < 0) → hl_X p l e R s m args below meth c nL D A cells slots Q w tgt ls st) (kf : ¬ x < 0 → hl_X p l e R s m args below meth c nL D A cells slots Q w (pc + 3) ls st) : hl_X p l e R s m args below meth c nL D A cells slots Q w pc ls (.int x :: st) :=
  fun H locs la hP hD hS hl => lv_if_lt h.1 h.2.1 hd ht (fun z => kt z H locs la hP hD hS hl) (fun z => kf z H locs la hP hD hS hl)
theorem hl_if_lt_T (h : hl_C p s m args c cc nL Ts own D tys A) (tgt : Nat) {x : Int32} {off : Int} (hd : decode cc pc = .ok (.ifCond .lt off, 3)) (ht : (pc : Int) + off = (tgt : Int)) (hc : (x < 0)) (kt : hl_X p l e R s m args below meth c nL D A cells slots Q w tgt ls st) : hl_X p l e R s m args below meth c nL D A cells slots Q w pc ls (.int x :: st) :=
  hl_if_lt h tgt hd ht (fun _ => kt) (fun z => absurd hc z)
theorem hl_if_lt_F (h : hl_C p s m args c cc nL Ts own D tys A) {x : Int32} {off : Int} (tgt : Nat) (hd : decode cc pc = .ok (.ifCond .lt off, 3)) (ht : (pc : Int) + off = (tgt : Int)) (hc : ¬ x < 0) (kf : hl_X p l e R s m args below meth c nL D A cells slots Q w (pc + 3) ls st) : hl_X p l e R s m args below meth c nL D A cells slots Q w pc ls (.int x :: st) :=
  hl_if_lt h tgt hd ht (fun z => absurd z hc) (fun _ => kf)
theorem hl_if_ge (h : hl_C p s m args c cc nL Ts own D tys A) (tgt : Nat) {x : Int32} {off : Int} (hd : decode cc pc = .ok (.ifCond .ge off, 3)) (ht : (pc : Int) + off = (tgt : Int)) (kt : (0 ≤ x) → hl_X p l e R s m args below meth c nL D A cells slots Q w tgt ls st) (kf : ¬ 0 ≤ x → hl_X p l e R s m args below meth c nL D A cells slots Q w (pc + 3) ls st) : hl_X p l e R s m args below meth c nL D A cells slots Q w pc ls (.int x :: st) :=
  fun H locs la hP hD hS hl => lv_if_ge h.1 h.2.1 hd ht (fun z => kt z H locs la hP hD hS hl) (fun z => kf z H locs la hP hD hS hl)
theorem hl_if_ge_T (h : hl_C p s m args c cc nL Ts own D tys A) (tgt : Nat) {x : Int32} {off : Int} (hd : decode cc pc = .ok (.ifCond .ge off, 3)) (ht : (pc : Int) + off = (tgt : Int)) (hc : (0 ≤ x)) (kt : hl_X p l e R s m args below meth c nL D A cells slots Q w tgt ls st) : hl_X p l e R s m args below meth c nL D A cells slots Q w pc ls (.int x :: st) :=
  hl_if_ge h tgt hd ht (fun _ => kt) (fun z => absurd hc z)
theorem hl_if_ge_F (h : hl_C p s m args c cc nL Ts own D tys A) {x : Int32} {off : Int} (tgt : Nat) (hd : decode cc pc = .ok (.ifCond .ge off, 3)) (ht : (pc : Int) + off = (tgt : Int)) (hc : ¬ 0 ≤ x) (kf : hl_X p l e R s m args below meth c nL D A cells slots Q w (pc + 3) ls st) : hl_X p l e R s m args below meth c nL D A cells slots Q w pc ls (.int x :: st) :=
  hl_if_ge h tgt hd ht (fun z => absurd z hc) (fun _ => kf)
theorem hl_if_gt (h : hl_C p s m args c cc nL Ts own D tys A) (tgt : Nat) {x : Int32} {off : Int} (hd : decode cc pc = .ok (.ifCond .gt off, 3)) (ht : (pc : Int) + off = (tgt : Int)) (kt : (0 < x) → hl_X p l e R s m args below meth c nL D A cells slots Q w tgt ls st) (kf : ¬ 0 < x → hl_X p l e R s m args below meth c nL D A cells slots Q w (pc + 3) ls st) : hl_X p l e R s m args below meth c nL D A cells slots Q w pc ls (.int x :: st) :=
  fun H locs la hP hD hS hl => lv_if_gt h.1 h.2.1 hd ht (fun z => kt z H locs la hP hD hS hl) (fun z => kf z H locs la hP hD hS hl)
theorem hl_if_gt_T (h : hl_C p s m args c cc nL Ts own D tys A) (tgt : Nat) {x : Int32} {off : Int} (hd : decode cc pc = .ok (.ifCond .gt off, 3)) (ht : (pc : Int) + off = (tgt : Int)) (hc : (0 < x)) (kt : hl_X p l e R s m args below meth c nL D A cells slots Q w tgt ls st) : hl_X p l e R s m args below meth c nL D A cells slots Q w pc ls (.int x :: st) :=
  hl_if_gt h tgt hd ht (fun _ => kt) (fun z => absurd hc z)
theorem hl_if_gt_F (h : hl_C p s m args c cc nL Ts own D tys A) {x : Int32} {off : Int} (tgt : Nat) (hd : decode cc pc = .ok (.ifCond .gt off, 3)) (ht : (pc : Int) + off = (tgt : Int)) (hc : ¬ 0 < x) (kf : hl_X p l e R s m args below meth c nL D A cells slots Q w (pc + 3) ls st) : hl_X p l e R s m args below meth c nL D A cells slots Q w pc ls (.int x :: st) :=
  hl_if_gt h tgt hd ht (fun z => absurd z hc) (fun _ => kf)
theorem hl_if_le (h : hl_C p s m args c cc nL Ts own D tys A) (tgt : Nat) {x : Int32} {off : Int} (hd : decode cc pc = .ok (.ifCond .le off, 3)) (ht : (pc : Int) + off = (tgt : Int)) (kt : (x ≤ 0) → hl_X p l e R s m args below meth c nL D A cells slots Q w tgt ls st) (kf : ¬ x ≤ 0 → hl_X p l e R s m args below meth c nL D A cells slots Q w (pc + 3) ls st) : hl_X p l e R s m args below meth c nL D A cells slots Q w pc ls (.int x :: st) :=
  fun H locs la hP hD hS hl => lv_if_le h.1 h.2.1 hd ht (fun z => kt z H locs la hP hD hS hl) (fun z => kf z H locs la hP hD hS hl)
theorem hl_if_le_T (h : hl_C p s m args c cc nL Ts own D tys A) (tgt : Nat) {x : Int32} {off : Int} (hd : decode cc pc = .ok (.ifCond .le off, 3)) (ht : (pc : Int) + off = (tgt : Int)) (hc : (x ≤ 0)) (kt : hl_X p l e R s m args below meth c nL D A cells slots Q w tgt ls st) : hl_X p l e R s m args below meth c nL D A cells slots Q w pc ls (.int x :: st) :=
  hl_if_le h tgt hd ht (fun _ => kt) (fun z => absurd hc z)
theorem hl_if_le_F (h : hl_C p s m args c cc nL Ts own D tys A) {x : Int32} {off : Int} (tgt : Nat) (hd : decode cc pc = .ok (.ifCond .le off, 3)) (ht : (pc : Int) + off = (tgt : Int)) (hc : ¬ x ≤ 0) (kf : hl_X p l e R s m args below meth c nL D A cells slots Q w (pc + 3) ls st) : hl_X p l e R s m args below meth c nL D A cells slots Q w pc ls (.int x :: st) :=
  hl_if_le h tgt hd ht (fun z => absurd z hc) (fun _ => kf)
theorem hl_icmp_eq (h : hl_C p s m args c cc nL Ts own D tys A) (tgt : Nat) {x y : Int32} {off : Int} (hd : decode cc pc = .ok (.if_icmp .eq off, 3)) (ht : (pc : Int) + off = (tgt : Int)) (kt : (x = y) → hl_X p l e R s m args below meth c nL D A cells slots Q w tgt ls st) (kf : ¬ x = y → hl_X p l e R s m args below meth c nL D A cells slots Q w (pc + 3) ls st) : hl_X p l e R s m args below meth c nL D A cells slots Q w pc ls (.int y :: .int x :: st) :=
  fun H locs la hP hD hS hl => lv_icmp_eq h.1 h.2.1 hd ht (fun z => kt z H locs la hP hD hS hl) (fun z => kf z H locs la hP hD hS hl)
theorem hl_icmp_eq_T (h : hl_C p s m args c cc nL Ts own D tys A) (tgt : Nat) {x y : Int32} {off : Int} (hd : decode cc pc = .ok (.if_icmp .eq off, 3)) (ht : (pc : Int) + off = (tgt : Int)) (hc : (x = y)) (kt : hl_X p l e R s m args below meth c nL D A cells slots Q w tgt ls st) : hl_X p l e R s m args below meth c nL D A cells slots Q w pc ls (.int y :: .int x :: st) :=
  hl_icmp_eq h tgt hd ht (fun _ => kt) (fun z => absurd hc z)
theorem hl_icmp_eq_F (h : hl_C p s m args c cc nL Ts own D tys A) {x y : Int32} {off : Int} (tgt : Nat) (hd : decode cc pc = .ok (.if_icmp .eq off, 3)) (ht : (pc : Int) + off = (tgt : Int)) (hc : ¬ x = y) (kf : hl_X p l e R s m args below meth c nL D A cells slots Q w (pc + 3) ls st) : hl_X p l e R s m args below meth c nL D A cells slots Q w pc ls (.int y :: .int x :: st) :=
  hl_icmp_eq h tgt hd ht (fun z => absurd z hc) (fun _ => kf)
theorem hl_icmp_ne (h : hl_C p s m args c cc nL Ts own D tys A) (tgt : Nat) {x y : Int32} {off : Int} (hd : decode cc pc = .ok (.if_icmp .ne off, 3)) (ht : (pc : Int) + off = (tgt : Int)) (kt : (¬ x = y) → hl_X p l e R s m args below meth c nL D A cells slots Q w tgt ls st) (kf : x = y → hl_X p l e R s m args below meth c nL D A cells slots Q w (pc + 3) ls st) : hl_X p l e R s m args below meth c nL D A cells slots Q w pc ls (.int y :: .int x :: st) :=
  fun H locs la hP hD hS hl => lv_icmp_ne h.1 h.2.1 hd ht (fun z => kt z H locs la hP hD hS hl) (fun z => kf z H locs la hP hD hS hl)
theorem hl_icmp_ne_T (h : hl_C p s m args c cc nL Ts own D tys A) (tgt : Nat) {x y : Int32} {off : Int} (hd : decode cc pc = .ok (.if_icmp .ne off, 3)) (ht : (pc : Int) + off = (tgt : Int)) (hc : (¬ x = y)) (kt : hl_X p l e R s m args below meth c nL D A cells slots Q w tgt ls st) : hl_X p l e R s m args below meth c nL D A cells slots Q w pc ls (.int y :: .int x :: st) :=
  hl_icmp_ne h tgt hd ht (fun _ => kt) (fun z => absurd z hc)
theorem hl_icmp_ne_F (h : hl_C p s m args c cc nL Ts own D tys A) {x y : Int32} {off : Int} (tgt : Nat) (hd : decode cc pc = .ok (.if_icmp .ne off, 3)) (ht : (pc : Int) + off = (tgt : Int)) (hc : x = y) (kf : hl_X p l e R s m args below meth c nL D A cells slots Q w (pc + 3) ls st) : hl_X p l e R s m args below meth c nL D A cells slots Q w pc ls (.int y :: .int x :: st) :=
  hl_icmp_ne h tgt hd ht (fun z => absurd hc z) (fun _ => kf)
theorem hl_icmp_lt (h : hl_C p s m args c cc nL Ts own D tys A) (tgt : Nat) {x y : Int32} {off : Int} (hd : decode cc pc = .ok (.if_icmp .lt off, 3)) (ht : (pc : Int) + off = (tgt : Int)) (kt : (x < y) → hl_X p l e R s m args below meth c nL D A cells slots Q w tgt ls st) (kf : ¬ x < y → hl_X p l e R s m args below meth c nL D A cells slots Q w (pc + 3) ls st) : hl_X p l e R s m args below meth c nL D A cells slots Q w pc ls (.int y :: .int x :: st) :=
  fun H locs la hP hD hS hl => lv_icmp_lt h.1 h.2.1 hd ht (fun z => kt z H locs la hP hD hS hl) (fun z => kf z H locs la hP hD hS hl)
theorem hl_icmp_lt_T (h : hl_C p s m args c cc nL Ts own D tys A) (tgt : Nat) {x y : Int32} {off : Int} (hd : decode cc pc = .ok (.if_icmp .lt off, 3)) (ht : (pc : Int) + off = (tgt : Int)) (hc : (x < y)) (kt : hl_X p l e R s m args below meth c nL D A cells slots Q w tgt ls st) : hl_X p l e R s m args below meth c nL D A cells slots Q w pc ls (.int y :: .int x :: st) :=
  hl_icmp_lt h tgt hd ht (fun _ => kt) (fun z => absurd hc z)
theorem hl_icmp_lt_F (h : hl_C p s m args c cc nL Ts own D tys A) {x y : Int32} {off : Int} (tgt : Nat) (hd : decode cc pc = .ok (.if_icmp .lt off, 3)) (ht : (pc : Int) + off = (tgt : Int)) (hc : ¬ x < y) (kf : hl_X p l e R s m args below meth c nL D A cells slots Q w (pc + 3) ls st) : hl_X p l e R s m args below meth c nL D A cells slots Q w pc ls (.int y :: .int x :: st) :=
  hl_icmp_lt h tgt hd ht (fun z => absurd z hc) (fun _ => kf)
theorem hl_icmp_ge (h : hl_C p s m args c cc nL Ts own D tys A) (tgt : Nat) {x y : Int32} {off : Int} (hd : decode cc pc = .ok (.if_icmp .ge off, 3)) (ht : (pc : Int) + off = (tgt : Int)) (kt : (y ≤ x) → hl_X p l e R s m args below meth c nL D A cells slots Q w tgt ls st) (kf : ¬ y ≤ x → hl_X p l e R s m args below meth c nL D A cells slots Q w (pc + 3) ls st) : hl_X p l e R s m args below meth c nL D A cells slots Q w pc ls (.int y :: .int x :: st) :=
  fun H locs la hP hD hS hl => lv_icmp_ge h.1 h.2.1 hd ht (fun z => kt z H locs la hP hD hS hl) (fun z => kf z H locs la hP hD hS hl)
theorem hl_icmp_ge_T (h : hl_C p s m args c cc nL Ts own D tys A) (tgt : Nat) {x y : Int32} {off : Int} (hd : decode cc pc = .ok (.if_icmp .ge off, 3)) (ht : (pc : Int) + off = (tgt : Int)) (hc : (y ≤ x)) (kt : hl_X p l e R s m args below meth c nL D A cells slots Q w tgt ls st) : hl_X p l e R s m args below meth c nL D A cells slots Q w pc ls (.int y :: .int x :: st) :=
  hl_icmp_ge h tgt hd ht (fun _ => kt) (fun z => absurd hc z)
theorem hl_icmp_ge_F (h : hl_C p s m args c cc nL Ts own D tys A) {x y : Int32} {off : Int} (tgt : Nat) (hd : decode cc pc = .ok (.if_icmp .ge off, 3)) (ht : (pc : Int) + off = (tgt : Int)) (hc : ¬ y ≤ x) (kf : hl_X p l e R s m args below meth c nL D A cells slots Q w (pc + 3) ls st) : hl_X p l e R s m args below meth c nL D A cells slots Q w pc ls (.int y :: .int x :: st) :=
  hl_icmp_ge h tgt hd ht (fun z => absurd z hc) (fun _ => kf)
theorem hl_icmp_gt (h : hl_C p s m args c cc nL Ts own D tys A) (tgt : Nat) {x y : Int32} {off : Int} (hd : decode cc pc = .ok (.if_icmp .gt off, 3)) (ht : (pc : Int) + off = (tgt : Int)) (kt : (y < x) → hl_X p l e R s m args below meth c nL D A cells slots Q w tgt ls st) (kf : ¬ y < x → hl_X p l e R s m args below meth c nL D A cells slots Q w (pc + 3) ls st) : hl_X p l e R s m args below meth c nL D A cells slots Q w pc ls (.int y :: .int x :: st) :=
  fun H locs la hP hD hS hl => lv_icmp_gt h.1 h.2.1 hd ht (fun z => kt z H locs la hP hD hS hl) (fun z => kf z H locs la hP hD hS hl)
theorem hl_icmp_gt_T (h : hl_C p s m args c cc nL Ts own D tys A) (tgt : Nat) {x y : Int32} {off : Int} (hd : decode cc pc = .ok (.if_icmp .gt off, 3)) (ht : (pc : Int) + off = (tgt : Int)) (hc : (y < x)) (kt : hl_X p l e R s m args below meth c nL D A cells slots Q w tgt ls st) : hl_X p l e R s m args below meth c nL D A cells slots Q w pc ls (.int y :: .int x :: st) :=
  hl_icmp_gt h tgt hd ht (fun _ => kt) (fun z => absurd hc z)
theorem hl_icmp_gt_F (h : hl_C p s m args c cc nL Ts own D tys A) {x y : Int32} {off : Int} (tgt : Nat) (hd : decode cc pc = .ok (.if_icmp .gt off, 3)) (ht : (pc : Int) + off = (tgt : Int)) (hc : ¬ y < x) (kf : hl_X p l e R s m args below meth c nL D A cells slots Q w (pc + 3) ls st) : hl_X p l e R s m args below meth c nL D A cells slots Q w pc ls (.int y :: .int x :: st) :=
  hl_icmp_gt h tgt hd ht (fun z => absurd z hc) (fun _ => kf)
theorem hl_icmp_le (h : hl_C p s m args c cc nL Ts own D tys A) (tgt : Nat) {x y : Int32} {off : Int} (hd : decode cc pc = .ok (.if_icmp .le off, 3)) (ht : (pc : Int) + off = (tgt : Int)) (kt : (x ≤ y) → hl_X p l e R s m args below meth c nL D A cells slots Q w tgt ls st) (kf : ¬ x ≤ y → hl_X p l e R s m args below meth c nL D A cells slots Q w (pc + 3) ls st) : hl_X p l e R s m args below meth c nL D A cells slots Q w pc ls (.int y :: .int x :: st) :=
  fun H locs la hP hD hS hl => lv_icmp_le h.1 h.2.1 hd ht (fun z => kt z H locs la hP hD hS hl) (fun z => kf z H locs la hP hD hS hl)
theorem hl_icmp_le_T (h : hl_C p s m args c cc nL Ts own D tys A) (tgt : Nat) {x y : Int32} {off : Int} (hd : decode cc pc = .ok (.if_icmp .le off, 3)) (ht : (pc : Int) + off = (tgt : Int)) (hc : (x ≤ y)) (kt : hl_X p l e R s m args below meth c nL D A cells slots Q w tgt ls st) : hl_X p l e R s m args below meth c nL D A cells slots Q w pc ls (.int y :: .int x :: st) :=
  hl_icmp_le h tgt hd ht (fun _ => kt) (fun z => absurd hc z)
theorem hl_icmp_le_F (h : hl_C p s m args c cc nL Ts own D tys A) {x y : Int32} {off : Int} (tgt : Nat) (hd : decode cc pc = .ok (.if_icmp .le off, 3)) (ht : (pc : Int) + off = (tgt : Int)) (hc : ¬ x ≤ y) (kf : hl_X p l e R s m args below meth c nL D A cells slots Q w (pc + 3) ls st) : hl_X p l e R s m args below meth c nL D A cells slots Q w pc ls (.int y :: .int x :: st) :=
  hl_icmp_le h tgt hd ht (fun z => absurd z hc) (fun _ => kf)
theorem hl_tableIn (h : hl_C p s m args c cc nL Ts own D tys A) (tgt : Nat) {dflt lo hi : Int} {offs : Array Int} {len : Nat} {x : Int32} {off : Int} (hd : decode cc pc = .ok (.tableswitch dflt lo hi offs, len)) (h1 : ¬ x.toInt < lo) (h2 : ¬ hi < x.toInt) (ho : offs[(x.toInt - lo).toNat]? = some off) (ht : (pc : Int) + off = (tgt : Int)) (k : hl_X p l e R s m args below meth c nL D A cells slots Q w tgt ls st) : hl_X p l e R s m args below meth c nL D A cells slots Q w pc ls (.int x :: st) :=
  fun H locs la hP hD hS hl => lv_tableIn h.1 h.2.1 hd h1 h2 ho ht (k H locs la hP hD hS hl)
theorem hl_tableOut (h : hl_C p s m args c cc nL Ts own D tys A) (tgt : Nat) {dflt lo hi : Int} {offs : Array Int} {len : Nat} {x : Int32} (hd : decode cc pc = .ok (.tableswitch dflt lo hi offs, len)) (h1 : x.toInt < lo ∨ hi < x.toInt) (ht : (pc : Int) + dflt = (tgt : Int)) (k : hl_X p l e R s m args below meth c nL D A cells slots Q w tgt ls st) : hl_X p l e R s m args below meth c nL D A cells slots Q w pc ls (.int x :: st) :=
  fun H locs la hP hD hS hl => lv_tableOut h.1 h.2.1 hd h1 ht (k H locs la hP hD hS hl)
/-! names for what is computed; fewer locals; another spelling -/
theorem hl_topi {x : Int32} (k : ∀ y : Int32, y = x → hl_X p l e R s m args below meth c nL D A cells slots Q w pc ls (.int y :: st)) : hl_X p l e R s m args below meth c nL D A cells slots Q w pc ls (.int x :: st) := k x rfl
theorem hl_topc {x : Int32} (y : Int32) (he : x = y) (k : hl_X p l e R s m args below meth c nL D A cells slots Q w pc ls (.int y :: st)) : hl_X p l e R s m args below meth c nL D A cells slots Q w pc ls (.int x :: st) := he ▸ k
theorem hl_ls {ls' : List (Nat × Value)} (he : ls = ls') (k : hl_X p l e R s m args below meth c nL D A cells slots Q w pc ls' st) : hl_X p l e R s m args below meth c nL D A cells slots Q w pc ls st := he ▸ k
theorem hl_wd {w' : va_W} (he : w = w') (k : hl_X p l e R s m args below meth c nL D A cells slots Q w' pc ls st) : hl_X p l e R s m args below meth c nL D A cells slots Q w pc ls st := he ▸ k
theorem hl_lsub (ks : List Nat) {ls' : List (Nat × Value)} (he : lv_pick ls ks = ls') (k : hl_X p l e R s m args below meth c nL D A cells slots Q w pc ls' st) : hl_X p l e R s m args below meth c nL D A cells slots Q w pc ls st :=
  fun H locs la hP hD hS hl => k H locs la hP hD hS (lv_sub hl ks he)
theorem hl_wsub (is : List Nat) {w' : va_W} (hn : va_nd is = true) (hs : is.map (fun i => w[i]?) = w'.map some) (k : hl_X p l e R s m args below meth c nL D A cells slots Q w' pc ls st) : hl_X p l e R s m args below meth c nL D A cells slots Q w pc ls st := by
  intro H locs la hP hD hS hl
  refine k H locs la (fun j q hj => ?_) (hD.sub is hn hs) hS hl
  have h1 : (is.map (fun i => w[i]?))[j]? = some (some q) := by rw [hs, List.getElem?_map, hj]; rfl
  rw [List.getElem?_map] at h1
  cases hi : is[j]? with
  | none => rw [hi] at h1; cases h1
  | some i => rw [hi] at h1; exact hP i q (Option.some.inj h1)
theorem hl_widen (k n : Nat) (h1 : cells ≤ k) (h2 : slots ≤ n) (kk : hl_X p l e R s m args below meth c nL D A k n Q w pc ls st) : hl_X p l e R s m args below meth c nL D A cells slots Q w pc ls st :=
  fun H locs la hP hD hS hl => W.widen h1 h2 (kk H locs la hP hD hS hl)
/-! fields, arrays -/
theorem hl_get (h : hl_C p s m args c cc nL Ts own D tys A) {C : String} {T : u_T} {N : Nat} (hin : ∀ z ∈ u_ws C T N, z ∈ Ts) {q0 a ci : Nat} {fs : List Value} (he : w[q0]? = some (a, .inr (ci, fs))) (hc : vwCl[ci]? = some (C, T, N)) (k : Nat) {v : Value} (hv : fs[k]? = some v) {index : Nat} (hd : decode cc pc = .ok (.getfield index, 3)) (hk : k < N) (hlink : Cond.fieldLink own index (T k).1 (T k).2.1 (T k).2.2.1 ∈ Ts) (kk : hl_X p l e R s m args below meth c nL D A cells slots Q w (pc + 3) ls (v :: st)) : hl_X p l e R s m args below meth c nL D A cells slots Q w pc ls (.ref a :: st) :=
  fun H locs la hP hD hS hl => va_get h.1 h.2.1 h.2.2.2.2.1 hin h.2.2.2.1 h.2.2.2.2.2.1 hP q0 he hc k hk (h.2.2.2.2.1 _ hlink) (fun _ h9 => h9) hv hd (kk H locs la hP hD hS hl)
theorem hl_put (h : hl_C p s m args c cc nL Ts own D tys A) {C : String} {T : u_T} {N : Nat} (hin : ∀ z ∈ u_ws C T N, z ∈ Ts) {ty0 : Nat → FieldType} (hty : ∀ k, k < N → parseFieldDescriptor (T k).2.2.1 = some (ty0 k)) (hnm : ∀ a, a < N → ∀ b, b < N → a ≠ b → (T a).2.1 ≠ (T b).2.1) {q0 a ci : Nat} {fs : List Value} (he : w[q0]? = some (a, .inr (ci, fs))) (hc : vwCl[ci]? = some (C, T, N)) (k : Nat) {v : Value} {index : Nat} (hd : decode cc pc = .ok (.putfield index, 3)) (hk : k < N) (hlink : Cond.fieldLink own index (T k).1 (T k).2.1 (T k).2.2.1 ∈ Ts) (hfin : (T k).2.2.2 = false) (hn : narrow (ty0 k) v = v) (hfit : fits (ty0 k) v = true) (hl0 : k < fs.length) {w' : va_W} (hw : w.set q0 (a, .inr (ci, fs.set k v)) = w') (kk : hl_X p l e R s m args below meth c nL D A cells slots Q w' (pc + 3) ls st) : hl_X p l e R s m args below meth c nL D A cells slots Q w pc ls (v :: .ref a :: st) :=
  fun H locs la hP hD hS hl => va_put h.1 h.2.1 h.2.2.2.2.1 hin ty0 hty hnm h.2.2.2.1 h.2.2.2.2.2.1 hP hD hS q0 he hc k hk (h.2.2.2.2.1 _ hlink) (fun _ h9 => h9) hfin (hty k hk) hn hfit hl0 hd (fun H1 locs1 hP1 hD1 hS1 => kk H1 locs1 la (hw ▸ hP1) (hw ▸ hD1) hS1 hl)
theorem hl_putF (h : hl_C p s m args c cc nL Ts own D tys A) {C : String} {T : u_T} {N : Nat} (hin : ∀ z ∈ u_ws C T N, z ∈ Ts) {ty0 : Nat → FieldType} (hty : ∀ k, k < N → parseFieldDescriptor (T k).2.2.1 = some (ty0 k)) (hnm : ∀ a, a < N → ∀ b, b < N → a ≠ b → (T a).2.1 ≠ (T b).2.1) {q0 a ci : Nat} {fs : List Value} (he : w[q0]? = some (a, .inr (ci, fs))) (hc : vwCl[ci]? = some (C, T, N)) (k : Nat) {v : Value} {index : Nat} (hd : decode cc pc = .ok (.putfield index, 3)) (hk : k < N) (hlink : Cond.fieldLink own index (T k).1 (T k).2.1 (T k).2.2.1 ∈ Ts) (hfin : (T k).2.2.2 = true) (hin2 : meth.name = "<init>") (hdecl : (T k).1 = own) (hn : narrow (ty0 k) v = v) (hfit : fits (ty0 k) v = true) (hl0 : k < fs.length) {w' : va_W} (hw : w.set q0 (a, .inr (ci, fs.set k v)) = w') (kk : hl_X p l e R s m args below meth c nL D A cells slots Q w' (pc + 3) ls st) : hl_X p l e R s m args below meth c nL D A cells slots Q w pc ls (v :: .ref a :: st) :=
  fun H locs la hP hD hS hl => va_putF h.1 h.2.1 h.2.2.2.2.1 hin ty0 hty hnm h.2.2.2.1 h.2.2.2.2.2.1 hP hD hS q0 he hc k hk (h.2.2.2.2.1 _ hlink) (fun _ h9 => h9) hfin hin2 hdecl (hty k hk) hn hfit hl0 hd (fun H1 locs1 hP1 hD1 hS1 => kk H1 locs1 la (hw ▸ hP1) (hw ▸ hD1) hS1 hl)
theorem hl_ild (h : hl_C p s m args c cc nL Ts own D tys A) {q0 a : Nat} {cA : ClassId} {n : Nat} {f : Nat → Int32} (he : w[q0]? = some (a, .inl (cA, n, .inl f))) (t0 : Nat) (ht : tys[t0]? = some (cA, .int)) {i : Int32} (hd : decode cc pc = .ok (.iaload, 1)) (hin : vp_in i n) (kk : hl_X p l e R s m args below meth c nL D A cells slots Q w (pc + 1) ls (.int (f i.toNatClampNeg) :: st)) : hl_X p l e R s m args below meth c nL D A cells slots Q w pc ls (.int i :: .ref a :: st) :=
  fun H locs la hP hD hS hl => va_iald h.1 h.2.1 h.2.2.2.2.2.1 hP q0 t0 he ht hin hd (kk H locs la hP hD hS hl)
theorem hl_ildN (h : hl_C p s m args c cc nL Ts own D tys A) {q0 a : Nat} {cA : ClassId} {n : Nat} {f : Nat → Int32} (he : w[q0]? = some (a, .inl (cA, n, .inl f))) (t0 : Nat) (ht : tys[t0]? = some (cA, .int)) {i : Int32} (j : Nat) (hd : decode cc pc = .ok (.iaload, 1)) (hi : i = nI j) (hj : j < n) (hn : n < 2 ^ 31) (kk : hl_X p l e R s m args below meth c nL D A cells slots Q w (pc + 1) ls (.int (f j) :: st)) : hl_X p l e R s m args below meth c nL D A cells slots Q w pc ls (.int i :: .ref a :: st) := by
  subst hi
  intro H locs la hP hD hS hl
  refine va_iald h.1 h.2.1 h.2.2.2.2.2.1 hP q0 t0 he ht (vp_in_nI hj hn) hd ?_
  rw [nI_clamp (by omega)]
  exact kk H locs la hP hD hS hl
theorem hl_zld (h : hl_C p s m args c cc nL Ts own D tys A) {q0 a : Nat} {cA : ClassId} {n : Nat} {f : Nat → Int32} (he : w[q0]? = some (a, .inl (cA, n, .inl f))) (t0 : Nat) (ht : tys[t0]? = some (cA, .boolean)) {i : Int32} (hd : decode cc pc = .ok (.baload, 1)) (hin : vp_in i n) (kk : hl_X p l e R s m args below meth c nL D A cells slots Q w (pc + 1) ls (.int (f i.toNatClampNeg) :: st)) : hl_X p l e R s m args below meth c nL D A cells slots Q w pc ls (.int i :: .ref a :: st) :=
  fun H locs la hP hD hS hl => va_zald h.1 h.2.1 h.2.2.2.2.2.1 hP q0 t0 he ht hin hd (kk H locs la hP hD hS hl)
theorem hl_zldN (h : hl_C p s m args c cc nL Ts own D tys A) {q0 a : Nat} {cA : ClassId} {n : Nat} {f : Nat → Int32} (he : w[q0]? = some (a, .inl (cA, n, .inl f))) (t0 : Nat) (ht : tys[t0]? = some (cA, .boolean)) {i : Int32} (j : Nat) (hd : decode cc pc = .ok (.baload, 1)) (hi : i = nI j) (hj : j < n) (hn : n < 2 ^ 31) (kk : hl_X p l e R s m args below meth c nL D A cells slots Q w (pc + 1) ls (.int (f j) :: st)) : hl_X p l e R s m args below meth c nL D A cells slots Q w pc ls (.int i :: .ref a :: st) := by
  subst hi
  intro H locs la hP hD hS hl
  refine va_zald h.1 h.2.1 h.2.2.2.2.2.1 hP q0 t0 he ht (vp_in_nI hj hn) hd ?_
  rw [nI_clamp (by omega)]
  exact kk H locs la hP hD hS hl
theorem hl_jld (h : hl_C p s m args c cc nL Ts own D tys A) {q0 a : Nat} {cA : ClassId} {n : Nat} {f : Nat → Int64} (he : w[q0]? = some (a, .inl (cA, n, .inr (.inl f)))) (t0 : Nat) (ht : tys[t0]? = some (cA, .long)) {i : Int32} (hd : decode cc pc = .ok (.laload, 1)) (hin : vp_in i n) (kk : hl_X p l e R s m args below meth c nL D A cells slots Q w (pc + 1) ls (.long (f i.toNatClampNeg) :: st)) : hl_X p l e R s m args below meth c nL D A cells slots Q w pc ls (.int i :: .ref a :: st) :=
  fun H locs la hP hD hS hl => va_lald h.1 h.2.1 h.2.2.2.2.2.1 hP q0 t0 he ht hin hd (kk H locs la hP hD hS hl)
theorem hl_ist (h : hl_C p s m args c cc nL Ts own D tys A) {q0 a : Nat} {cA : ClassId} {n : Nat} {f : Nat → Int32} (he : w[q0]? = some (a, .inl (cA, n, .inl f))) (t0 : Nat) (ht : tys[t0]? = some (cA, .int)) {i x : Int32} (hd : decode cc pc = .ok (.iastore, 1)) (hin : vp_in i n) {w' : va_W} (hw : w.set q0 (a, .inl (cA, n, .inl (upd f i.toNatClampNeg x))) = w') (kk : hl_X p l e R s m args below meth c nL D A cells slots Q w' (pc + 1) ls st) : hl_X p l e R s m args below meth c nL D A cells slots Q w pc ls (.int x :: .int i :: .ref a :: st) :=
  fun H locs la hP hD hS hl => va_iast h.1 h.2.1 h.2.2.2.2.2.1 hP hD hS q0 t0 he ht hin hd (fun H1 locs1 hP1 hD1 hS1 => kk H1 locs1 la (hw ▸ hP1) (hw ▸ hD1) hS1 hl)
theorem hl_istN (h : hl_C p s m args c cc nL Ts own D tys A) {q0 a : Nat} {cA : ClassId} {n : Nat} {f : Nat → Int32} (he : w[q0]? = some (a, .inl (cA, n, .inl f))) (t0 : Nat) (ht : tys[t0]? = some (cA, .int)) {i x : Int32} (j : Nat) (hd : decode cc pc = .ok (.iastore, 1)) (hi : i = nI j) (hj : j < n) (hn : n < 2 ^ 31) {w' : va_W} (hw : w.set q0 (a, .inl (cA, n, .inl (upd f j x))) = w') (kk : hl_X p l e R s m args below meth c nL D A cells slots Q w' (pc + 1) ls st) : hl_X p l e R s m args below meth c nL D A cells slots Q w pc ls (.int x :: .int i :: .ref a :: st) := by
  subst hi
  refine hl_ist h he t0 ht hd (vp_in_nI hj hn) (w' := w') ?_ kk
  rw [nI_clamp (by omega)]
  exact hw
theorem hl_zst (h : hl_C p s m args c cc nL Ts own D tys A) {q0 a : Nat} {cA : ClassId} {n : Nat} {f : Nat → Int32} (he : w[q0]? = some (a, .inl (cA, n, .inl f))) (t0 : Nat) (ht : tys[t0]? = some (cA, .boolean)) {i x : Int32} (hd : decode cc pc = .ok (.bastore, 1)) (hin : vp_in i n) {w' : va_W} (hw : w.set q0 (a, .inl (cA, n, .inl (upd f i.toNatClampNeg (vp_nar .boolean x)))) = w') (kk : hl_X p l e R s m args below meth c nL D A cells slots Q w' (pc + 1) ls st) : hl_X p l e R s m args below meth c nL D A cells slots Q w pc ls (.int x :: .int i :: .ref a :: st) :=
  fun H locs la hP hD hS hl => va_zast h.1 h.2.1 h.2.2.2.2.2.1 hP hD hS q0 t0 he ht hin hd (fun H1 locs1 hP1 hD1 hS1 => kk H1 locs1 la (hw ▸ hP1) (hw ▸ hD1) hS1 hl)
theorem hl_jst (h : hl_C p s m args c cc nL Ts own D tys A) {q0 a : Nat} {cA : ClassId} {n : Nat} {f : Nat → Int64} (he : w[q0]? = some (a, .inl (cA, n, .inr (.inl f)))) (t0 : Nat) (ht : tys[t0]? = some (cA, .long)) {i : Int32} {x : Int64} (hd : decode cc pc = .ok (.lastore, 1)) (hin : vp_in i n) {w' : va_W} (hw : w.set q0 (a, .inl (cA, n, .inr (.inl (vp_updL f i.toNatClampNeg x)))) = w') (kk : hl_X p l e R s m args below meth c nL D A cells slots Q w' (pc + 1) ls st) : hl_X p l e R s m args below meth c nL D A cells slots Q w pc ls (.long x :: .int i :: .ref a :: st) :=
  fun H locs la hP hD hS hl => va_last h.1 h.2.1 h.2.2.2.2.2.1 hP hD hS q0 t0 he ht hin hd (fun H1 locs1 hP1 hD1 hS1 => kk H1 locs1 la (hw ▸ hP1) (hw ▸ hD1) hS1 hl)
/-! what is made -/
theorem hl_same {U : State} {cA cB : ClassId} {ty : FieldType} (h0 : ∀ n, ty ≠ .object n) (h1 : va_RA U cA ty) (h2 : va_RA U cB ty) : cA = cB := by
  cases ty with
  | object C => exact absurd rfl (h0 C)
  | _ => exact Option.some.inj (Eq.trans (Eq.symm h1) h2)
theorem hl_newa (h : hl_C p s m args c cc nL Ts own D tys A) {atype : ArrayType} {ty : FieldType} (harr : Cond.arrayClass (newarray.typeOf atype) ∈ Ts) (hty : newarray.typeOf atype = ty) (h0 : ∀ n, ty ≠ .object n) {cA : ClassId} (t0 : Nat) (ht : tys[t0]? = some (cA, ty)) {n : Int32} {N' : Nat} {a0 : vp_A} (hd : decode cc pc = .ok (.newarray atype, 2)) (ha : ∀ cA : ClassId, vp_cell cA a0 = arrV cA N' (fun _ => defaultValue ty)) (hn : ¬ n < 0) (hN : n.toNatClampNeg = N') (hbytes : N' * componentBytes ty ≤ 536870912) (hcells : cells + 1 ≤ R.cells) (hslots : slots + N' ≤ R.slots)
    (kk : ∀ q : Nat, hl_X p l e R s m args below meth c nL D A (cells + 1) (slots + N') Q (w ++ [(q, .inl (cA, a0))]) (pc + 2) ls (.ref q :: st)) : hl_X p l e R s m args below meth c nL D A cells slots Q w pc ls (.int n :: st) := by
  intro H locs la hP hD hS hl
  refine va_newa h.1 h.2.1 (h.2.2.2.2.1 _ harr) hty h.2.2.2.2.2.1 hP hD hS h.2.2.2.2.2.2 ha hn hN hbytes hcells hslots hd (fun q cB H1 hK1 hP1 hD1 hS1 => ?_)
  have e1 : cB = cA := hl_same h0 (hK1.2 tys.length (cB, ty) (by simp)).2 (h.2.2.2.2.2.1.2 t0 _ ht).2
  subst e1
  exact kk q H1 locs la hP1 hD1 hS1 hl
theorem hl_new (h : hl_C p s m args c cc nL Ts own D tys A) {C : String} {T : u_T} {N index : Nat} (hin : ∀ z ∈ u_ws C T N, z ∈ Ts) {ty : Nat → FieldType} (hty : ∀ k, k < N → parseFieldDescriptor (T k).2.2.1 = some (ty k)) {ci : Nat} (hc : vwCl[ci]? = some (C, T, N)) (hd : decode cc pc = .ok (.new index, 3)) (hcl : Cond.classLink own index C ∈ Ts) (hinst : Cond.instantiable C N ∈ Ts) (hini : Cond.initialized C ∈ Ts) (fs : List Value) (hfs : ∀ j, j < N → defaultValue (ty j) = vp_V fs j) (hcells : cells + 1 ≤ R.cells) (hslots : slots + N ≤ R.slots)
    (kk : ∀ q : Nat, hl_X p l e R s m args below meth c nL D A (cells + 1) (slots + N) Q (w ++ [(q, .inr (ci, fs))]) (pc + 3) ls (.ref q :: st)) : hl_X p l e R s m args below meth c nL D A cells slots Q w pc ls st :=
  fun H locs la hP hD hS hl => va_new h.1 h.2.1 h.2.2.2.2.1 hin ty hty h.2.2.2.1 (h.2.2.2.2.1 _ hcl) (h.2.2.2.2.1 _ hinst) (h.2.2.2.2.1 _ hini) h.2.2.2.2.2.1 hP hD hS h.2.2.2.2.2.2 hc hfs hcells hslots hd (fun q H1 hP1 hD1 hS1 => kk q H1 locs la hP1 hD1 hS1 hl)
theorem hl_objInit (h : hl_C p s m args c cc nL Ts own D tys A) {idx a : Nat} (hlink : Cond.methodLink own idx Lib.objectInit ∈ Ts) (hinst : Cond.instanceMethod Lib.objectInit ∈ Ts) (hcode : Cond.code Lib.objectInit ⟨#[0xb1]⟩ 1 none ∈ Ts) (hd : decode cc pc = .ok (.invokespecial idx, 3)) (hframes : 1 ≤ R.frames) (hlocals : (st.map fun v => v.category).sum + 12 ≤ R.locals) (k : hl_X p l e R s m args below meth c nL D A cells slots Q w (pc + 3) ls st) : hl_X p l e R s m args below meth c nL D A cells slots Q w pc ls (.ref a :: st) := by
  intro H locs la hP hD hS hl
  refine W.objInit h.1 h.2.1 h.2.2.2.1 (h.2.2.2.2.1 _ hlink) (h.2.2.2.2.1 _ hinst) (h.2.2.2.2.1 _ hcode) rfl (by rw [h.2.2.1]; exact hl.1) rfl hd hframes (by show 2 * 0 + _ + 12 ≤ _; omega) ?_
  exact W.eq (g2 := F0 m (pc + 3) la st) rfl (k H locs la hP hD hS hl)
/-! Math -/
theorem hl_max (h : hl_C p s m args c cc nL Ts own D tys A) {index : Nat} {x y : Int32} (hd : decode cc pc = .ok (.invokestatic index, 3)) (hlink : Cond.methodLink own index Lib.Math.max.name ∈ Ts) (hstat : Cond.static Lib.Math.max.name ∈ Ts) (hini : Cond.initialized "java/lang/Math" ∈ Ts) (hcode : Cond.code Lib.Math.max.name Lib.Math.max.code 2 (some .int) ∈ Ts) (hframes : 1 ≤ R.frames) (hlocals : (st.map fun v => v.category).sum + 13 ≤ R.locals) (hc : cells ≤ R.cells) (hs : slots ≤ R.slots) (kk : hl_X p l e R s m args below meth c nL D A cells slots Q w (pc + 3) ls (.int (if x < y then y else x) :: st)) : hl_X p l e R s m args below meth c nL D A cells slots Q w pc ls (.int y :: .int x :: st) :=
  fun H locs la hP hD hS hl => va_mmax h.1 h.2.1 (h.2.2.1.trans hl.1.symm) h.2.2.2.1 (h.2.2.2.2.1 _ hlink) (h.2.2.2.2.1 _ hstat) (h.2.2.2.2.1 _ hini) (h.2.2.2.2.1 _ hcode) hframes hlocals hc hs hd (kk H locs la hP hD hS hl)
theorem hl_min (h : hl_C p s m args c cc nL Ts own D tys A) {index : Nat} {x y : Int32} (hd : decode cc pc = .ok (.invokestatic index, 3)) (hlink : Cond.methodLink own index Lib.Math.min.name ∈ Ts) (hstat : Cond.static Lib.Math.min.name ∈ Ts) (hini : Cond.initialized "java/lang/Math" ∈ Ts) (hcode : Cond.code Lib.Math.min.name Lib.Math.min.code 2 (some .int) ∈ Ts) (hframes : 1 ≤ R.frames) (hlocals : (st.map fun v => v.category).sum + 13 ≤ R.locals) (hc : cells ≤ R.cells) (hs : slots ≤ R.slots) (kk : hl_X p l e R s m args below meth c nL D A cells slots Q w (pc + 3) ls (.int (if y < x then y else x) :: st)) : hl_X p l e R s m args below meth c nL D A cells slots Q w pc ls (.int y :: .int x :: st) :=
  fun H locs la hP hD hS hl => va_mmin h.1 h.2.1 (h.2.2.1.trans hl.1.symm) h.2.2.2.1 (h.2.2.2.2.1 _ hlink) (h.2.2.2.2.1 _ hstat) (h.2.2.2.2.1 _ hini) (h.2.2.2.2.1 _ hcode) hframes hlocals hc hs hd (kk H locs la hP hD hS hl)
theorem hl_abs (h : hl_C p s m args c cc nL Ts own D tys A) {index : Nat} {x : Int32} (hd : decode cc pc = .ok (.invokestatic index, 3)) (hlink : Cond.methodLink own index Lib.Math.abs.name ∈ Ts) (hstat : Cond.static Lib.Math.abs.name ∈ Ts) (hini : Cond.initialized "java/lang/Math" ∈ Ts) (hcode : Cond.code Lib.Math.abs.name Lib.Math.abs.code 1 (some .int) ∈ Ts) (hframes : 1 ≤ R.frames) (hlocals : (st.map fun v => v.category).sum + 13 ≤ R.locals) (hc : cells ≤ R.cells) (hs : slots ≤ R.slots) (kk : hl_X p l e R s m args below meth c nL D A cells slots Q w (pc + 3) ls (.int (if 0 ≤ x then x else 0 - x) :: st)) : hl_X p l e R s m args below meth c nL D A cells slots Q w pc ls (.int x :: st) :=
  fun H locs la hP hD hS hl => va_mabs h.1 h.2.1 (h.2.2.1.trans hl.1.symm) h.2.2.2.1 (h.2.2.2.2.1 _ hlink) (h.2.2.2.2.1 _ hstat) (h.2.2.2.2.1 _ hini) (h.2.2.2.2.1 _ hcode) hframes hlocals hc hs hd (kk H locs la hP hD hS hl)
end HLR
/-! CONTRACTS. hl_KI: a method that returns an int (or a boolean); hl_KV: nothing; P says of the answer and of the world behind it -/
def hl_Pre (D : va_G) (tys : List (ClassId × FieldType)) (w0 : va_W) (sz : Nat) (U : State) : Prop := U.heap.size = sz ∧ va_P D vwCl w0 U.heap ∧ va_K D vwCl tys U ∧ va_D (fun _ => True) w0
def hl_B (D : va_G) (tys : List (ClassId × FieldType)) (w0 : va_W) (sz : Nat) (w1 : va_W) (t : State) : Prop := va_P D vwCl w1 t.heap ∧ va_K D vwCl tys t ∧ va_D (va_A w0 sz) w1
def hl_QI (D : va_G) (tys : List (ClassId × FieldType)) (w0 : va_W) (P : Int32 → va_W → Prop) (sz : Nat) : Array Value → State → Outcome → State → Prop := va_Qi P (hl_B D tys w0 sz) (va_A w0 sz)
def hl_QV (D : va_G) (tys : List (ClassId × FieldType)) (w0 : va_W) (P : va_W → Prop) (sz : Nat) : Array Value → State → Outcome → State → Prop := va_Qv P (hl_B D tys w0 sz) (va_A w0 sz)
def hl_KI (D : va_G) (tys : List (ClassId × FieldType)) (l : Launch) (y : MethodName) (ws : List Cond) (rm : Room) (mc ms : Nat) (av : List Value) (w0 : va_W) (P : Int32 → va_W → Prop) : Prop :=
  ∀ sz : Nat, Met l y ws rm (va_Pc av (hl_Pre D tys w0 sz)) (hl_QI D tys w0 P sz) mc ms (va_A w0 sz)
def hl_KV (D : va_G) (tys : List (ClassId × FieldType)) (l : Launch) (y : MethodName) (ws : List Cond) (rm : Room) (mc ms : Nat) (av : List Value) (w0 : va_W) (P : va_W → Prop) : Prop :=
  ∀ sz : Nat, Met l y ws rm (va_Pc av (hl_Pre D tys w0 sz)) (hl_QV D tys w0 P sz) mc ms (va_A w0 sz)
theorem hl_blind (D : va_G) (tys : List (ClassId × FieldType)) (w0 : va_W) (sz : Nat) (av : List Value) : FrameBlind (va_Pc av (hl_Pre D tys w0 sz)) := fun a U g mk q => by
  obtain ⟨q0, q1, qP, qK, qD⟩ := q
  exact ⟨q0, q1, qP, va_K.moved (u := U) (U := U.calling g mk a) (Vm.Alike.refl U.vm) qK, qD⟩
section HLK
variable {p : Program} {l : Launch} {e : Env} {R : Room} {s : State} {m : MethodId} {args : Array Value} {below : List Frame} {meth : Method} {c : Code}
variable {cc : ByteArray} {nL : Nat} {Ts : List Cond} {own : String} {D : va_G} {tys : List (ClassId × FieldType)} {A : Nat → Prop} {cells slots : Nat} {Q : State → Prop} {w : va_W} {pc : Nat} {ls : List (Nat × Value)} {st : List Value}
/-- the body of a method, as a goal in these words -/
theorem hl_KI_of {y : MethodName} {ws ws' : List Cond} {rm : Room} {mc ms : Nat} {av : List Value} {w0 : va_W} {P : Int32 → va_W → Prop} {maxL : Nat} {ret : Option FieldType} (ty : FieldType) (hret : ret = some ty) (hnar : ∀ v : Int32, ty = .boolean ∨ narrow ty (.int v) = .int v) (hy : plainName y.cls = true) (hw : ws = Cond.code y cc maxL ret :: ws') (hvs : (lg_sl av).length ≤ maxL)
    (body : ∀ (p : Program) (e : Env) (s : State) (m : MethodId) (args : Array Value) (below : List Frame) (meth : Method) (c : Code) (A : Nat → Prop) (Q : State → Prop), hl_C p s m args c cc maxL ws y.cls D tys A →
      (∀ {v : Int32} {w : va_W} {pc : Nat} {ls : List (Nat × Value)}, decode cc pc = .ok (.ireturn, 1) → (ty = .boolean → v = 0 ∨ v = 1) → P v w → hl_X p l e rm s m args below meth c maxL D A mc ms Q w pc ls [.int v]) →
      hl_X p l e rm s m args below meth c maxL D A 0 0 Q w0 0 (lv_args 0 av) []) : hl_KI D tys l y ws rm mc ms av w0 P := by
  subst hret
  intro sz
  refine Met.ofW (cc := cc) (maxL := maxL) (ret := some ty) hy hw ?_
  intro p e s m args below meth c s₁ B hml hv
  obtain ⟨rfl, hsz, hP, hK, hD0⟩ := hv
  have hr := B.returns
  have hlocks := B.notSynchronized
  subst hsz
  rw [lg_entry_eq]
  refine body p e s m av.toArray below meth c (va_A w0 s.heap.size) _ ⟨B.exec, B.bytes, hml, findClass_of_methodNamed B.named, atoms_spec (ws := ws) B.pre, hK, fun q h => Or.inr h⟩ ?_ s.heap [] _ hP hD0.self va_S.rf (lv_entry av hvs)
  intro v w pc ls hd hb hp H locs la hP1 hD1 hS1 hl1
  refine W.zret (v := v) B.exec B.bytes hr ?_ (fun t ht hW => ⟨⟨v, w, rfl, hp, by rw [ht]; exact hP1, va_K.moved hW.alike hK, hD1⟩, hS1.F ht⟩) hS1.2.2 hd hlocks
  rcases hnar v with h9 | h9
  · subst h9
    rcases hb rfl with rfl | rfl <;> rfl
  · exact h9
theorem hl_KV_of {y : MethodName} {ws ws' : List Cond} {rm : Room} {mc ms : Nat} {av : List Value} {w0 : va_W} {P : va_W → Prop} {maxL : Nat} (hy : plainName y.cls = true) (hw : ws = Cond.code y cc maxL none :: ws') (hvs : (lg_sl av).length ≤ maxL)
    (body : ∀ (p : Program) (e : Env) (s : State) (m : MethodId) (args : Array Value) (below : List Frame) (meth : Method) (c : Code) (A : Nat → Prop) (Q : State → Prop), hl_C p s m args c cc maxL ws y.cls D tys A → meth.name = y.name →
      (∀ {w : va_W} {pc : Nat} {ls : List (Nat × Value)}, decode cc pc = .ok (.return_, 1) → P w → hl_X p l e rm s m args below meth c maxL D A mc ms Q w pc ls []) →
      hl_X p l e rm s m args below meth c maxL D A 0 0 Q w0 0 (lv_args 0 av) []) : hl_KV D tys l y ws rm mc ms av w0 P := by
  intro sz
  refine Met.ofW (cc := cc) (maxL := maxL) (ret := none) hy hw ?_
  intro p e s m args below meth c s₁ B hml hv
  obtain ⟨rfl, hsz, hP, hK, hD0⟩ := hv
  have hr := B.returns
  have hlocks := B.notSynchronized
  have hnm : meth.name = y.name := (name_of_methodNamed B.named B.method).1
  subst hsz
  rw [lg_entry_eq]
  refine body p e s m av.toArray below meth c (va_A w0 s.heap.size) _ ⟨B.exec, B.bytes, hml, findClass_of_methodNamed B.named, atoms_spec (ws := ws) B.pre, hK, fun q h => Or.inr h⟩ hnm ?_ s.heap [] _ hP hD0.self va_S.rf (lv_entry av hvs)
  intro w pc ls hd hp H locs la hP1 hD1 hS1 hl1
  exact W.vret B.exec B.bytes hr (fun t ht hW => ⟨⟨w, rfl, hp, by rw [ht]; exact hP1, va_K.moved hW.alike hK, hD1⟩, hS1.F ht⟩) hS1.2.2 hd hlocks
theorem hl_fr {H : Heap} {locs : List Loc} (h : hl_C p s m args c cc nL Ts own D tys A) (hD : va_D A w) (hS : va_S A s.heap H locs) : ∀ q : Nat, va_A w H.size q → A q := fun q hq => by
  rcases hq with ⟨k, z, hk⟩ | hq
  · exact hD.2 k _ hk
  · exact h.2.2.2.2.2.2 q (Nat.le_trans hS.1 hq)
/-- how a caller gives the callee its start: the same world -/
theorem hl_pre {H : Heap} (h : hl_C p s m args c cc nL Ts own D tys A) (hP : va_P D vwCl w H) (hD : va_D A w) (av : List Value) : ∀ U : State, U.heap = H → s.WarmedH U.vm → va_Pc av (hl_Pre D tys w H.size) av.toArray U :=
  fun U hU hW => ⟨rfl, by rw [hU], by rw [hU]; exact hP, va_K.moved hW.alike h.2.2.2.2.2.1, hD.weaken (fun _ _ _ _ => trivial)⟩
theorem hl_callVi (h : hl_C p s m args c cc nL Ts own D tys A) {C : String} {y : MethodName} {bytes : ByteArray} {maxL mc ms n index b : Nat} {ret : Option FieldType} {ws : List Cond} {rm : Room} {As : List Value} {P : Int32 → va_W → Prop} (hM : hl_KI D tys l y ws rm mc ms (.ref b :: As) w P) (cw : CallW R s args own C index y bytes maxL ret ws rm mc ms n) {q0 ci : Nat} {fs : List Value} {T : u_T} {N : Nat} (he : w[q0]? = some (b, .inr (ci, fs))) (hc : vwCl[ci]? = some (C, T, N)) (hd : decode cc pc = .ok (.invokevirtual index, 3)) (hn : As.length = n) (hW : (st.map fun v => v.category).sum ≤ 8) (hf : cells + mc ≤ R.cells ∧ slots + ms ≤ R.slots) {st0 : List Value} (hst : st0 = (As.reverse ++ .ref b :: st)) (kk : ∀ (r : Int32) (w1 : va_W), P r w1 → hl_X p l e R s m args below meth c nL D A (cells + mc) (slots + ms) Q w1 (pc + 3) ls (.int r :: st)) : hl_X p l e R s m args below meth c nL D A cells slots Q w pc ls st0 := by
  subst hst
  intro H locs la hP hD hS hl
  have hF := hl_fr h hD hS
  refine va_calli (va_runV (As := As) (rest := st) ⟨h.1, h.2.1, h.2.2.1, h.2.2.2.1, h.2.2.2.2.1⟩ (hM H.size) cw ⟨hl_blind D tys w H.size _, va_recv h.2.2.2.2.2.1 hP hc he, hl_pre h hP hD _⟩ rfl hn hl.1 rfl (lv_room hW) hd hf) hS (fun q _ h9 => hF q h9) hF (fun r u t H1 locs1 ht hvm hw hB hz hk hS1 => ?_)
  obtain ⟨hP1, hK1, hD1⟩ := hB
  rw [ht] at hP1
  exact kk r u hw H1 locs1 la hP1 (hD1.weaken (fun k q _ h9 => hF q.1 h9)) hS1 hl
theorem hl_callVv (h : hl_C p s m args c cc nL Ts own D tys A) {C : String} {y : MethodName} {bytes : ByteArray} {maxL mc ms n index b : Nat} {ret : Option FieldType} {ws : List Cond} {rm : Room} {As : List Value} {P : va_W → Prop} (hM : hl_KV D tys l y ws rm mc ms (.ref b :: As) w P) (cw : CallW R s args own C index y bytes maxL ret ws rm mc ms n) {q0 ci : Nat} {fs : List Value} {T : u_T} {N : Nat} (he : w[q0]? = some (b, .inr (ci, fs))) (hc : vwCl[ci]? = some (C, T, N)) (hd : decode cc pc = .ok (.invokevirtual index, 3)) (hn : As.length = n) (hW : (st.map fun v => v.category).sum ≤ 8) (hf : cells + mc ≤ R.cells ∧ slots + ms ≤ R.slots) {st0 : List Value} (hst : st0 = (As.reverse ++ .ref b :: st)) (kk : ∀ w1 : va_W, P w1 → hl_X p l e R s m args below meth c nL D A (cells + mc) (slots + ms) Q w1 (pc + 3) ls st) : hl_X p l e R s m args below meth c nL D A cells slots Q w pc ls st0 := by
  subst hst
  intro H locs la hP hD hS hl
  have hF := hl_fr h hD hS
  refine va_callv (va_runV (As := As) (rest := st) ⟨h.1, h.2.1, h.2.2.1, h.2.2.2.1, h.2.2.2.2.1⟩ (hM H.size) cw ⟨hl_blind D tys w H.size _, va_recv h.2.2.2.2.2.1 hP hc he, hl_pre h hP hD _⟩ rfl hn hl.1 rfl (lv_room hW) hd hf) hS (fun q _ h9 => hF q h9) hF (fun u t H1 locs1 ht hvm hw hB hz hk hS1 => ?_)
  obtain ⟨hP1, hK1, hD1⟩ := hB
  rw [ht] at hP1
  exact kk u hw H1 locs1 la hP1 (hD1.weaken (fun k q _ h9 => hF q.1 h9)) hS1 hl
theorem hl_callSi (h : hl_C p s m args c cc nL Ts own D tys A) {y : MethodName} {bytes : ByteArray} {maxL mc ms n index : Nat} {ret : Option FieldType} {ws : List Cond} {rm : Room} {As : List Value} {P : Int32 → va_W → Prop} (hM : hl_KI D tys l y ws rm mc ms As w P) (cw : CallB R s args own index y bytes maxL ret ws rm mc ms n ∧ (Cond.static y).before args s = true) (hd : decode cc pc = .ok (.invokestatic index, 3)) (hn : As.length = n) (hW : (st.map fun v => v.category).sum ≤ 8) (hf : cells + mc ≤ R.cells ∧ slots + ms ≤ R.slots) {st0 : List Value} (hst : st0 = (As.reverse ++ st)) (kk : ∀ (r : Int32) (w1 : va_W), P r w1 → hl_X p l e R s m args below meth c nL D A (cells + mc) (slots + ms) Q w1 (pc + 3) ls (.int r :: st)) : hl_X p l e R s m args below meth c nL D A cells slots Q w pc ls st0 := by
  subst hst
  intro H locs la hP hD hS hl
  have hF := hl_fr h hD hS
  refine va_calli (va_runS (As := As) (rest := st) ⟨h.1, h.2.1, h.2.2.1, h.2.2.2.1, h.2.2.2.2.1⟩ (hM H.size) cw ⟨hl_blind D tys w H.size _, hl_pre h hP hD _⟩ rfl hn hl.1 rfl (lv_room hW) hd hf) hS (fun q _ h9 => hF q h9) hF (fun r u t H1 locs1 ht hvm hw hB hz hk hS1 => ?_)
  obtain ⟨hP1, hK1, hD1⟩ := hB
  rw [ht] at hP1
  exact kk r u hw H1 locs1 la hP1 (hD1.weaken (fun k q _ h9 => hF q.1 h9)) hS1 hl
theorem hl_callSv (h : hl_C p s m args c cc nL Ts own D tys A) {y : MethodName} {bytes : ByteArray} {maxL mc ms n index : Nat} {ret : Option FieldType} {ws : List Cond} {rm : Room} {As : List Value} {P : va_W → Prop} (hM : hl_KV D tys l y ws rm mc ms As w P) (cw : CallB R s args own index y bytes maxL ret ws rm mc ms n ∧ (Cond.static y).before args s = true) (hd : decode cc pc = .ok (.invokestatic index, 3)) (hn : As.length = n) (hW : (st.map fun v => v.category).sum ≤ 8) (hf : cells + mc ≤ R.cells ∧ slots + ms ≤ R.slots) {st0 : List Value} (hst : st0 = (As.reverse ++ st)) (kk : ∀ w1 : va_W, P w1 → hl_X p l e R s m args below meth c nL D A (cells + mc) (slots + ms) Q w1 (pc + 3) ls st) : hl_X p l e R s m args below meth c nL D A cells slots Q w pc ls st0 := by
  subst hst
  intro H locs la hP hD hS hl
  have hF := hl_fr h hD hS
  refine va_callv (va_runS (As := As) (rest := st) ⟨h.1, h.2.1, h.2.2.1, h.2.2.2.1, h.2.2.2.2.1⟩ (hM H.size) cw ⟨hl_blind D tys w H.size _, hl_pre h hP hD _⟩ rfl hn hl.1 rfl (lv_room hW) hd hf) hS (fun q _ h9 => hF q h9) hF (fun u t H1 locs1 ht hvm hw hB hz hk hS1 => ?_)
  obtain ⟨hP1, hK1, hD1⟩ := hB
  rw [ht] at hP1
  exact kk u hw H1 locs1 la hP1 (hD1.weaken (fun k q _ h9 => hF q.1 h9)) hS1 hl
theorem hl_callI (h : hl_C p s m args c cc nL Ts own D tys A) {y : MethodName} {bytes : ByteArray} {maxL mc ms n index b : Nat} {ws : List Cond} {rm : Room} {As : List Value} {P : va_W → Prop} (hM : hl_KV D tys l y ws rm mc ms (.ref b :: As) w P) (cw : CallB R s args own index y bytes maxL none ws rm mc ms n ∧ y.name = "<init>" ∧ (Cond.instanceMethod y).before args s = true) (hd : decode cc pc = .ok (.invokespecial index, 3)) (hn : As.length = n) (hW : (st.map fun v => v.category).sum ≤ 8) (hf : cells + mc ≤ R.cells ∧ slots + ms ≤ R.slots) {st0 : List Value} (hst : st0 = (As.reverse ++ .ref b :: st)) (kk : ∀ w1 : va_W, P w1 → hl_X p l e R s m args below meth c nL D A (cells + mc) (slots + ms) Q w1 (pc + 3) ls st) : hl_X p l e R s m args below meth c nL D A cells slots Q w pc ls st0 := by
  subst hst
  intro H locs la hP hD hS hl
  have hF := hl_fr h hD hS
  refine va_callv (va_runI (As := As) (rest := st) ⟨h.1, h.2.1, h.2.2.1, h.2.2.2.1, h.2.2.2.2.1⟩ (hM H.size) cw ⟨hl_blind D tys w H.size _, hl_pre h hP hD _⟩ rfl hn hl.1 rfl (lv_room hW) hd hf) hS (fun q _ h9 => hF q h9) hF (fun u t H1 locs1 ht hvm hw hB hz hk hS1 => ?_)
  obtain ⟨hP1, hK1, hD1⟩ := hB
  rw [ht] at hP1
  exact kk u hw H1 locs1 la hP1 (hD1.weaken (fun k q _ h9 => hF q.1 h9)) hS1 hl
theorem hl_psub {w' : va_W} {H : Heap} (hP : va_P D vwCl w H) (is : List Nat) (hs : is.map (fun i => w[i]?) = w'.map some) : va_P D vwCl w' H := fun j q hj => by
  have h1 : (is.map (fun i => w[i]?))[j]? = some (some q) := by rw [hs, List.getElem?_map, hj]; rfl
  rw [List.getElem?_map] at h1
  cases hi : is[j]? with
  | none => rw [hi] at h1; cases h1
  | some i => rw [hi] at h1; exact hP i q (Option.some.inj h1)
/-! calls with a part of the world -/
theorem hl_callPVi (h : hl_C p s m args c cc nL Ts own D tys A) {C : String} {y : MethodName} {bytes : ByteArray} {maxL mc ms n index b : Nat} {ret : Option FieldType} {ws : List Cond} {rm : Room} {As : List Value} {P : Int32 → va_W → Prop} {wc wr : va_W} (isC isR : List Nat) (hC : isC.map (fun i => w[i]?) = wc.map some) (hR : isR.map (fun i => w[i]?) = wr.map some) (hnC : va_nd isC = true) (hnR : va_nd isR = true) (hdis : ∀ i ∈ isR, i ∉ isC) (hM : hl_KI D tys l y ws rm mc ms (.ref b :: As) wc P) (cw : CallW R s args own C index y bytes maxL ret ws rm mc ms n) {q0 ci : Nat} {fs : List Value} {T : u_T} {N : Nat} (he : w[q0]? = some (b, .inr (ci, fs))) (hc : vwCl[ci]? = some (C, T, N)) (hd : decode cc pc = .ok (.invokevirtual index, 3)) (hn : As.length = n) (hW : (st.map fun v => v.category).sum ≤ 8) (hf : cells + mc ≤ R.cells ∧ slots + ms ≤ R.slots) {st0 : List Value} (hst : st0 = (As.reverse ++ .ref b :: st)) (kk : ∀ (r : Int32) (w1 : va_W), P r w1 → hl_X p l e R s m args below meth c nL D A (cells + mc) (slots + ms) Q (wr ++ w1) (pc + 3) ls (.int r :: st)) : hl_X p l e R s m args below meth c nL D A cells slots Q w pc ls st0 := by
  subst hst
  intro H locs la hP hD hS hl
  have hDc := hD.sub (ws' := wc) isC hnC hC
  have hPc : va_P D vwCl wc H := hl_psub hP isC hC
  have hF := hl_fr h hDc hS
  refine va_calli (va_runV (As := As) (rest := st) ⟨h.1, h.2.1, h.2.2.1, h.2.2.2.1, h.2.2.2.2.1⟩ (hM H.size) cw ⟨hl_blind D tys wc H.size _, va_recv h.2.2.2.2.2.1 hP hc he, hl_pre h hPc hDc _⟩ rfl hn hl.1 rfl (lv_room hW) hd hf) hS (fun q _ h9 => hF q h9) hF (fun r u t H1 locs1 ht hvm hw hB hz hk hS1 => ?_)
  obtain ⟨hP1, hK1, hD1⟩ := hB
  rw [ht] at hP1
  obtain ⟨hP2, hD2⟩ := va_join hP hD isC isR hC hR hnR hdis hk hF hP1 hD1
  exact kk r u hw H1 locs1 la hP2 hD2 hS1 hl
theorem hl_callPVv (h : hl_C p s m args c cc nL Ts own D tys A) {C : String} {y : MethodName} {bytes : ByteArray} {maxL mc ms n index b : Nat} {ret : Option FieldType} {ws : List Cond} {rm : Room} {As : List Value} {P : va_W → Prop} {wc wr : va_W} (isC isR : List Nat) (hC : isC.map (fun i => w[i]?) = wc.map some) (hR : isR.map (fun i => w[i]?) = wr.map some) (hnC : va_nd isC = true) (hnR : va_nd isR = true) (hdis : ∀ i ∈ isR, i ∉ isC) (hM : hl_KV D tys l y ws rm mc ms (.ref b :: As) wc P) (cw : CallW R s args own C index y bytes maxL ret ws rm mc ms n) {q0 ci : Nat} {fs : List Value} {T : u_T} {N : Nat} (he : w[q0]? = some (b, .inr (ci, fs))) (hc : vwCl[ci]? = some (C, T, N)) (hd : decode cc pc = .ok (.invokevirtual index, 3)) (hn : As.length = n) (hW : (st.map fun v => v.category).sum ≤ 8) (hf : cells + mc ≤ R.cells ∧ slots + ms ≤ R.slots) {st0 : List Value} (hst : st0 = (As.reverse ++ .ref b :: st)) (kk : ∀ w1 : va_W, P w1 → hl_X p l e R s m args below meth c nL D A (cells + mc) (slots + ms) Q (wr ++ w1) (pc + 3) ls st) : hl_X p l e R s m args below meth c nL D A cells slots Q w pc ls st0 := by
  subst hst
  intro H locs la hP hD hS hl
  have hDc := hD.sub (ws' := wc) isC hnC hC
  have hPc : va_P D vwCl wc H := hl_psub hP isC hC
  have hF := hl_fr h hDc hS
  refine va_callv (va_runV (As := As) (rest := st) ⟨h.1, h.2.1, h.2.2.1, h.2.2.2.1, h.2.2.2.2.1⟩ (hM H.size) cw ⟨hl_blind D tys wc H.size _, va_recv h.2.2.2.2.2.1 hP hc he, hl_pre h hPc hDc _⟩ rfl hn hl.1 rfl (lv_room hW) hd hf) hS (fun q _ h9 => hF q h9) hF (fun u t H1 locs1 ht hvm hw hB hz hk hS1 => ?_)
  obtain ⟨hP1, hK1, hD1⟩ := hB
  rw [ht] at hP1
  obtain ⟨hP2, hD2⟩ := va_join hP hD isC isR hC hR hnR hdis hk hF hP1 hD1
  exact kk u hw H1 locs1 la hP2 hD2 hS1 hl
theorem hl_callPSi (h : hl_C p s m args c cc nL Ts own D tys A) {y : MethodName} {bytes : ByteArray} {maxL mc ms n index : Nat} {ret : Option FieldType} {ws : List Cond} {rm : Room} {As : List Value} {P : Int32 → va_W → Prop} {wc wr : va_W} (isC isR : List Nat) (hC : isC.map (fun i => w[i]?) = wc.map some) (hR : isR.map (fun i => w[i]?) = wr.map some) (hnC : va_nd isC = true) (hnR : va_nd isR = true) (hdis : ∀ i ∈ isR, i ∉ isC) (hM : hl_KI D tys l y ws rm mc ms As wc P) (cw : CallB R s args own index y bytes maxL ret ws rm mc ms n ∧ (Cond.static y).before args s = true) (hd : decode cc pc = .ok (.invokestatic index, 3)) (hn : As.length = n) (hW : (st.map fun v => v.category).sum ≤ 8) (hf : cells + mc ≤ R.cells ∧ slots + ms ≤ R.slots) {st0 : List Value} (hst : st0 = (As.reverse ++ st)) (kk : ∀ (r : Int32) (w1 : va_W), P r w1 → hl_X p l e R s m args below meth c nL D A (cells + mc) (slots + ms) Q (wr ++ w1) (pc + 3) ls (.int r :: st)) : hl_X p l e R s m args below meth c nL D A cells slots Q w pc ls st0 := by
  subst hst
  intro H locs la hP hD hS hl
  have hDc := hD.sub (ws' := wc) isC hnC hC
  have hPc : va_P D vwCl wc H := hl_psub hP isC hC
  have hF := hl_fr h hDc hS
  refine va_calli (va_runS (As := As) (rest := st) ⟨h.1, h.2.1, h.2.2.1, h.2.2.2.1, h.2.2.2.2.1⟩ (hM H.size) cw ⟨hl_blind D tys wc H.size _, hl_pre h hPc hDc _⟩ rfl hn hl.1 rfl (lv_room hW) hd hf) hS (fun q _ h9 => hF q h9) hF (fun r u t H1 locs1 ht hvm hw hB hz hk hS1 => ?_)
  obtain ⟨hP1, hK1, hD1⟩ := hB
  rw [ht] at hP1
  obtain ⟨hP2, hD2⟩ := va_join hP hD isC isR hC hR hnR hdis hk hF hP1 hD1
  exact kk r u hw H1 locs1 la hP2 hD2 hS1 hl
theorem hl_callPSv (h : hl_C p s m args c cc nL Ts own D tys A) {y : MethodName} {bytes : ByteArray} {maxL mc ms n index : Nat} {ret : Option FieldType} {ws : List Cond} {rm : Room} {As : List Value} {P : va_W → Prop} {wc wr : va_W} (isC isR : List Nat) (hC : isC.map (fun i => w[i]?) = wc.map some) (hR : isR.map (fun i => w[i]?) = wr.map some) (hnC : va_nd isC = true) (hnR : va_nd isR = true) (hdis : ∀ i ∈ isR, i ∉ isC) (hM : hl_KV D tys l y ws rm mc ms As wc P) (cw : CallB R s args own index y bytes maxL ret ws rm mc ms n ∧ (Cond.static y).before args s = true) (hd : decode cc pc = .ok (.invokestatic index, 3)) (hn : As.length = n) (hW : (st.map fun v => v.category).sum ≤ 8) (hf : cells + mc ≤ R.cells ∧ slots + ms ≤ R.slots) {st0 : List Value} (hst : st0 = (As.reverse ++ st)) (kk : ∀ w1 : va_W, P w1 → hl_X p l e R s m args below meth c nL D A (cells + mc) (slots + ms) Q (wr ++ w1) (pc + 3) ls st) : hl_X p l e R s m args below meth c nL D A cells slots Q w pc ls st0 := by
  subst hst
  intro H locs la hP hD hS hl
  have hDc := hD.sub (ws' := wc) isC hnC hC
  have hPc : va_P D vwCl wc H := hl_psub hP isC hC
  have hF := hl_fr h hDc hS
  refine va_callv (va_runS (As := As) (rest := st) ⟨h.1, h.2.1, h.2.2.1, h.2.2.2.1, h.2.2.2.2.1⟩ (hM H.size) cw ⟨hl_blind D tys wc H.size _, hl_pre h hPc hDc _⟩ rfl hn hl.1 rfl (lv_room hW) hd hf) hS (fun q _ h9 => hF q h9) hF (fun u t H1 locs1 ht hvm hw hB hz hk hS1 => ?_)
  obtain ⟨hP1, hK1, hD1⟩ := hB
  rw [ht] at hP1
  obtain ⟨hP2, hD2⟩ := va_join hP hD isC isR hC hR hnR hdis hk hF hP1 hD1
  exact kk u hw H1 locs1 la hP2 hD2 hS1 hl
theorem hl_callPI (h : hl_C p s m args c cc nL Ts own D tys A) {y : MethodName} {bytes : ByteArray} {maxL mc ms n index b : Nat} {ws : List Cond} {rm : Room} {As : List Value} {P : va_W → Prop} {wc wr : va_W} (isC isR : List Nat) (hC : isC.map (fun i => w[i]?) = wc.map some) (hR : isR.map (fun i => w[i]?) = wr.map some) (hnC : va_nd isC = true) (hnR : va_nd isR = true) (hdis : ∀ i ∈ isR, i ∉ isC) (hM : hl_KV D tys l y ws rm mc ms (.ref b :: As) wc P) (cw : CallB R s args own index y bytes maxL none ws rm mc ms n ∧ y.name = "<init>" ∧ (Cond.instanceMethod y).before args s = true) (hd : decode cc pc = .ok (.invokespecial index, 3)) (hn : As.length = n) (hW : (st.map fun v => v.category).sum ≤ 8) (hf : cells + mc ≤ R.cells ∧ slots + ms ≤ R.slots) {st0 : List Value} (hst : st0 = (As.reverse ++ .ref b :: st)) (kk : ∀ w1 : va_W, P w1 → hl_X p l e R s m args below meth c nL D A (cells + mc) (slots + ms) Q (wr ++ w1) (pc + 3) ls st) : hl_X p l e R s m args below meth c nL D A cells slots Q w pc ls st0 := by
  subst hst
  intro H locs la hP hD hS hl
  have hDc := hD.sub (ws' := wc) isC hnC hC
  have hPc : va_P D vwCl wc H := hl_psub hP isC hC
  have hF := hl_fr h hDc hS
  refine va_callv (va_runI (As := As) (rest := st) ⟨h.1, h.2.1, h.2.2.1, h.2.2.2.1, h.2.2.2.2.1⟩ (hM H.size) cw ⟨hl_blind D tys wc H.size _, hl_pre h hPc hDc _⟩ rfl hn hl.1 rfl (lv_room hW) hd hf) hS (fun q _ h9 => hF q h9) hF (fun u t H1 locs1 ht hvm hw hB hz hk hS1 => ?_)
  obtain ⟨hP1, hK1, hD1⟩ := hB
  rw [ht] at hP1
  obtain ⟨hP2, hD2⟩ := va_join hP hD isC isR hC hR hnR hdis hk hF hP1 hD1
  exact kk u hw H1 locs1 la hP2 hD2 hS1 hl
theorem hl_callViD (h : hl_C p s m args c cc nL Ts own D tys A) {C : String} {y : MethodName} {bytes : ByteArray} {maxL mc ms n index b : Nat} {ret : Option FieldType} {ws : List Cond} {rm : Room} {As : List Value} {rr : Int32} {ww : va_W} (hM : hl_KI D tys l y ws rm mc ms (.ref b :: As) w (fun r w => r = rr ∧ w = ww)) (cw : CallW R s args own C index y bytes maxL ret ws rm mc ms n) {q0 ci : Nat} {fs : List Value} {T : u_T} {N : Nat} (he : w[q0]? = some (b, .inr (ci, fs))) (hc : vwCl[ci]? = some (C, T, N)) (hd : decode cc pc = .ok (.invokevirtual index, 3)) (hn : As.length = n) (hW : (st.map fun v => v.category).sum ≤ 8) (hf : cells + mc ≤ R.cells ∧ slots + ms ≤ R.slots) {st0 : List Value} (hst : st0 = (As.reverse ++ .ref b :: st)) (kk : hl_X p l e R s m args below meth c nL D A (cells + mc) (slots + ms) Q ww (pc + 3) ls (.int rr :: st)) : hl_X p l e R s m args below meth c nL D A cells slots Q w pc ls st0 :=
  hl_callVi h hM cw he hc hd hn hW hf hst (fun r w1 hp => by rw [hp.1, hp.2]; exact kk)
theorem hl_callVvD (h : hl_C p s m args c cc nL Ts own D tys A) {C : String} {y : MethodName} {bytes : ByteArray} {maxL mc ms n index b : Nat} {ret : Option FieldType} {ws : List Cond} {rm : Room} {As : List Value} {ww : va_W} (hM : hl_KV D tys l y ws rm mc ms (.ref b :: As) w (fun w => w = ww)) (cw : CallW R s args own C index y bytes maxL ret ws rm mc ms n) {q0 ci : Nat} {fs : List Value} {T : u_T} {N : Nat} (he : w[q0]? = some (b, .inr (ci, fs))) (hc : vwCl[ci]? = some (C, T, N)) (hd : decode cc pc = .ok (.invokevirtual index, 3)) (hn : As.length = n) (hW : (st.map fun v => v.category).sum ≤ 8) (hf : cells + mc ≤ R.cells ∧ slots + ms ≤ R.slots) {st0 : List Value} (hst : st0 = (As.reverse ++ .ref b :: st)) (kk : hl_X p l e R s m args below meth c nL D A (cells + mc) (slots + ms) Q ww (pc + 3) ls st) : hl_X p l e R s m args below meth c nL D A cells slots Q w pc ls st0 :=
  hl_callVv h hM cw he hc hd hn hW hf hst (fun w1 hp => by rw [hp]; exact kk)
theorem hl_callSiD (h : hl_C p s m args c cc nL Ts own D tys A) {y : MethodName} {bytes : ByteArray} {maxL mc ms n index : Nat} {ret : Option FieldType} {ws : List Cond} {rm : Room} {As : List Value} {rr : Int32} {ww : va_W} (hM : hl_KI D tys l y ws rm mc ms As w (fun r w => r = rr ∧ w = ww)) (cw : CallB R s args own index y bytes maxL ret ws rm mc ms n ∧ (Cond.static y).before args s = true) (hd : decode cc pc = .ok (.invokestatic index, 3)) (hn : As.length = n) (hW : (st.map fun v => v.category).sum ≤ 8) (hf : cells + mc ≤ R.cells ∧ slots + ms ≤ R.slots) {st0 : List Value} (hst : st0 = (As.reverse ++ st)) (kk : hl_X p l e R s m args below meth c nL D A (cells + mc) (slots + ms) Q ww (pc + 3) ls (.int rr :: st)) : hl_X p l e R s m args below meth c nL D A cells slots Q w pc ls st0 :=
  hl_callSi h hM cw hd hn hW hf hst (fun r w1 hp => by rw [hp.1, hp.2]; exact kk)
theorem hl_callSvD (h : hl_C p s m args c cc nL Ts own D tys A) {y : MethodName} {bytes : ByteArray} {maxL mc ms n index : Nat} {ret : Option FieldType} {ws : List Cond} {rm : Room} {As : List Value} {ww : va_W} (hM : hl_KV D tys l y ws rm mc ms As w (fun w => w = ww)) (cw : CallB R s args own index y bytes maxL ret ws rm mc ms n ∧ (Cond.static y).before args s = true) (hd : decode cc pc = .ok (.invokestatic index, 3)) (hn : As.length = n) (hW : (st.map fun v => v.category).sum ≤ 8) (hf : cells + mc ≤ R.cells ∧ slots + ms ≤ R.slots) {st0 : List Value} (hst : st0 = (As.reverse ++ st)) (kk : hl_X p l e R s m args below meth c nL D A (cells + mc) (slots + ms) Q ww (pc + 3) ls st) : hl_X p l e R s m args below meth c nL D A cells slots Q w pc ls st0 :=
  hl_callSv h hM cw hd hn hW hf hst (fun w1 hp => by rw [hp]; exact kk)
theorem hl_callPViD (h : hl_C p s m args c cc nL Ts own D tys A) {C : String} {y : MethodName} {bytes : ByteArray} {maxL mc ms n index b : Nat} {ret : Option FieldType} {ws : List Cond} {rm : Room} {As : List Value} {rr : Int32} {ww : va_W} {wc wr : va_W} (isC isR : List Nat) (hC : isC.map (fun i => w[i]?) = wc.map some) (hR : isR.map (fun i => w[i]?) = wr.map some) (hnC : va_nd isC = true) (hnR : va_nd isR = true) (hdis : ∀ i ∈ isR, i ∉ isC) (hM : hl_KI D tys l y ws rm mc ms (.ref b :: As) wc (fun r w => r = rr ∧ w = ww)) (cw : CallW R s args own C index y bytes maxL ret ws rm mc ms n) {q0 ci : Nat} {fs : List Value} {T : u_T} {N : Nat} (he : w[q0]? = some (b, .inr (ci, fs))) (hc : vwCl[ci]? = some (C, T, N)) (hd : decode cc pc = .ok (.invokevirtual index, 3)) (hn : As.length = n) (hW : (st.map fun v => v.category).sum ≤ 8) (hf : cells + mc ≤ R.cells ∧ slots + ms ≤ R.slots) {st0 : List Value} (hst : st0 = (As.reverse ++ .ref b :: st)) (kk : hl_X p l e R s m args below meth c nL D A (cells + mc) (slots + ms) Q (wr ++ ww) (pc + 3) ls (.int rr :: st)) : hl_X p l e R s m args below meth c nL D A cells slots Q w pc ls st0 :=
  hl_callPVi h isC isR hC hR hnC hnR hdis hM cw he hc hd hn hW hf hst (fun r w1 hp => by rw [hp.1, hp.2]; exact kk)
theorem hl_callPVvD (h : hl_C p s m args c cc nL Ts own D tys A) {C : String} {y : MethodName} {bytes : ByteArray} {maxL mc ms n index b : Nat} {ret : Option FieldType} {ws : List Cond} {rm : Room} {As : List Value} {ww : va_W} {wc wr : va_W} (isC isR : List Nat) (hC : isC.map (fun i => w[i]?) = wc.map some) (hR : isR.map (fun i => w[i]?) = wr.map some) (hnC : va_nd isC = true) (hnR : va_nd isR = true) (hdis : ∀ i ∈ isR, i ∉ isC) (hM : hl_KV D tys l y ws rm mc ms (.ref b :: As) wc (fun w => w = ww)) (cw : CallW R s args own C index y bytes maxL ret ws rm mc ms n) {q0 ci : Nat} {fs : List Value} {T : u_T} {N : Nat} (he : w[q0]? = some (b, .inr (ci, fs))) (hc : vwCl[ci]? = some (C, T, N)) (hd : decode cc pc = .ok (.invokevirtual index, 3)) (hn : As.length = n) (hW : (st.map fun v => v.category).sum ≤ 8) (hf : cells + mc ≤ R.cells ∧ slots + ms ≤ R.slots) {st0 : List Value} (hst : st0 = (As.reverse ++ .ref b :: st)) (kk : hl_X p l e R s m args below meth c nL D A (cells + mc) (slots + ms) Q (wr ++ ww) (pc + 3) ls st) : hl_X p l e R s m args below meth c nL D A cells slots Q w pc ls st0 :=
  hl_callPVv h isC isR hC hR hnC hnR hdis hM cw he hc hd hn hW hf hst (fun w1 hp => by rw [hp]; exact kk)
theorem hl_callPSiD (h : hl_C p s m args c cc nL Ts own D tys A) {y : MethodName} {bytes : ByteArray} {maxL mc ms n index : Nat} {ret : Option FieldType} {ws : List Cond} {rm : Room} {As : List Value} {rr : Int32} {ww : va_W} {wc wr : va_W} (isC isR : List Nat) (hC : isC.map (fun i => w[i]?) = wc.map some) (hR : isR.map (fun i => w[i]?) = wr.map some) (hnC : va_nd isC = true) (hnR : va_nd isR = true) (hdis : ∀ i ∈ isR, i ∉ isC) (hM : hl_KI D tys l y ws rm mc ms As wc (fun r w => r = rr ∧ w = ww)) (cw : CallB R s args own index y bytes maxL ret ws rm mc ms n ∧ (Cond.static y).before args s = true) (hd : decode cc pc = .ok (.invokestatic index, 3)) (hn : As.length = n) (hW : (st.map fun v => v.category).sum ≤ 8) (hf : cells + mc ≤ R.cells ∧ slots + ms ≤ R.slots) {st0 : List Value} (hst : st0 = (As.reverse ++ st)) (kk : hl_X p l e R s m args below meth c nL D A (cells + mc) (slots + ms) Q (wr ++ ww) (pc + 3) ls (.int rr :: st)) : hl_X p l e R s m args below meth c nL D A cells slots Q w pc ls st0 :=
  hl_callPSi h isC isR hC hR hnC hnR hdis hM cw hd hn hW hf hst (fun r w1 hp => by rw [hp.1, hp.2]; exact kk)
theorem hl_callPSvD (h : hl_C p s m args c cc nL Ts own D tys A) {y : MethodName} {bytes : ByteArray} {maxL mc ms n index : Nat} {ret : Option FieldType} {ws : List Cond} {rm : Room} {As : List Value} {ww : va_W} {wc wr : va_W} (isC isR : List Nat) (hC : isC.map (fun i => w[i]?) = wc.map some) (hR : isR.map (fun i => w[i]?) = wr.map some) (hnC : va_nd isC = true) (hnR : va_nd isR = true) (hdis : ∀ i ∈ isR, i ∉ isC) (hM : hl_KV D tys l y ws rm mc ms As wc (fun w => w = ww)) (cw : CallB R s args own index y bytes maxL ret ws rm mc ms n ∧ (Cond.static y).before args s = true) (hd : decode cc pc = .ok (.invokestatic index, 3)) (hn : As.length = n) (hW : (st.map fun v => v.category).sum ≤ 8) (hf : cells + mc ≤ R.cells ∧ slots + ms ≤ R.slots) {st0 : List Value} (hst : st0 = (As.reverse ++ st)) (kk : hl_X p l e R s m args below meth c nL D A (cells + mc) (slots + ms) Q (wr ++ ww) (pc + 3) ls st) : hl_X p l e R s m args below meth c nL D A cells slots Q w pc ls st0 :=
  hl_callPSv h isC isR hC hR hnC hnR hdis hM cw hd hn hW hf hst (fun w1 hp => by rw [hp]; exact kk)
end HLK
end
section
/-! The states as functions: place, index -> number. su: one place anew. it: a loop's steps from i on, n of them. -/
def hl_su (g : Nat → Nat → Int32) (k : Nat) (f : Nat → Int32) : Nat → Nat → Int32 := fun j => bif Nat.beq j k then f else g j
theorem hl_su_eq (g : Nat → Nat → Int32) (k : Nat) (f : Nat → Int32) : hl_su g k f k = f := by simp [hl_su]
theorem hl_su_ne (g : Nat → Nat → Int32) {k j : Nat} (f : Nat → Int32) (h : j ≠ k) : hl_su g k f j = g j := by
  have h2 : Nat.beq j k = false := by
    cases h3 : Nat.beq j k with
    | false => rfl
    | true => exact absurd (Nat.eq_of_beq_eq_true h3) h
  simp only [hl_su, h2, cond_false]
def hl_it {α : Type} (f : Nat → α → α) : Nat → Nat → α → α
  | _, 0, x => x
  | i, n + 1, x => hl_it f (i + 1) n (f i x)
theorem hl_it_0 {α : Type} (f : Nat → α → α) (i : Nat) (x : α) : hl_it f i 0 x = x := rfl
theorem hl_it_s {α : Type} (f : Nat → α → α) (i n : Nat) (x : α) : hl_it f i (n + 1) x = hl_it f (i + 1) n (f i x) := rfl
def hl_WC (a : Nat → Nat) (cI cZ : ClassId) (g : Nat → Nat → Int32) : va_W := [(a 0, .inr (5, [.ref (a 1), .ref (a 2), .ref (a 3), .ref (a 4), .ref (a 5), .int (g 23 0)])), (a 1, .inr (4, [.ref (a 6), .ref (a 7), .ref (a 8)])), (a 2, .inr (2, [.ref (a 9), .ref (a 10), .ref (a 11), .ref (a 12), .ref (a 13), .int (g 8 0), .int (g 9 0)])), (a 3, .inr (0, [.ref (a 14), .ref (a 15), .ref (a 16), .ref (a 17), .ref (a 18), .ref (a 19), .int (g 16 0)])), (a 4, .inr (3, [.ref (a 20), .ref (a 21), .ref (a 22), .int (g 20 0)])), (a 5, .inr (1, [.ref (a 23), .ref (a 24)])), (a 6, .inl (cI, 8, .inl (g 0))), (a 7, .inl (cI, 8, .inl (g 1))), (a 8, .inl (cI, 8, .inl (g 2))), (a 9, .inl (cI, 4, .inl (g 3))), (a 10, .inl (cI, 4, .inl (g 4))), (a 11, .inl (cI, 4, .inl (g 5))), (a 12, .inl (cI, 4, .inl (g 6))), (a 13, .inl (cI, 4, .inl (g 7))), (a 14, .inl (cI, 80, .inl (g 10))), (a 15, .inl (cI, 80, .inl (g 11))), (a 16, .inl (cI, 80, .inl (g 12))), (a 17, .inl (cI, 80, .inl (g 13))), (a 18, .inl (cZ, 80, .inl (g 14))), (a 19, .inl (cI, 80, .inl (g 15))), (a 20, .inl (cI, 80, .inl (g 17))), (a 21, .inl (cI, 80, .inl (g 18))), (a 22, .inl (cI, 80, .inl (g 19))), (a 23, .inl (cI, 4, .inl (g 21))), (a 24, .inl (cI, 16, .inl (g 22)))]
section
variable {a : Nat → Nat} {cI cZ : ClassId} {g : Nat → Nat → Int32}
theorem hl_wc_0 : (hl_WC a cI cZ g)[0]? = some (a 0, .inr (5, [.ref (a 1), .ref (a 2), .ref (a 3), .ref (a 4), .ref (a 5), .int (g 23 0)])) := rfl
theorem hl_wc_1 : (hl_WC a cI cZ g)[1]? = some (a 1, .inr (4, [.ref (a 6), .ref (a 7), .ref (a 8)])) := rfl
theorem hl_wc_2 : (hl_WC a cI cZ g)[2]? = some (a 2, .inr (2, [.ref (a 9), .ref (a 10), .ref (a 11), .ref (a 12), .ref (a 13), .int (g 8 0), .int (g 9 0)])) := rfl
theorem hl_wc_3 : (hl_WC a cI cZ g)[3]? = some (a 3, .inr (0, [.ref (a 14), .ref (a 15), .ref (a 16), .ref (a 17), .ref (a 18), .ref (a 19), .int (g 16 0)])) := rfl
theorem hl_wc_4 : (hl_WC a cI cZ g)[4]? = some (a 4, .inr (3, [.ref (a 20), .ref (a 21), .ref (a 22), .int (g 20 0)])) := rfl
theorem hl_wc_5 : (hl_WC a cI cZ g)[5]? = some (a 5, .inr (1, [.ref (a 23), .ref (a 24)])) := rfl
theorem hl_wc_6 : (hl_WC a cI cZ g)[6]? = some (a 6, .inl (cI, 8, .inl (g 0))) := rfl
theorem hl_wc_7 : (hl_WC a cI cZ g)[7]? = some (a 7, .inl (cI, 8, .inl (g 1))) := rfl
theorem hl_wc_8 : (hl_WC a cI cZ g)[8]? = some (a 8, .inl (cI, 8, .inl (g 2))) := rfl
theorem hl_wc_9 : (hl_WC a cI cZ g)[9]? = some (a 9, .inl (cI, 4, .inl (g 3))) := rfl
theorem hl_wc_10 : (hl_WC a cI cZ g)[10]? = some (a 10, .inl (cI, 4, .inl (g 4))) := rfl
theorem hl_wc_11 : (hl_WC a cI cZ g)[11]? = some (a 11, .inl (cI, 4, .inl (g 5))) := rfl
theorem hl_wc_12 : (hl_WC a cI cZ g)[12]? = some (a 12, .inl (cI, 4, .inl (g 6))) := rfl
theorem hl_wc_13 : (hl_WC a cI cZ g)[13]? = some (a 13, .inl (cI, 4, .inl (g 7))) := rfl
theorem hl_wc_14 : (hl_WC a cI cZ g)[14]? = some (a 14, .inl (cI, 80, .inl (g 10))) := rfl
theorem hl_wc_15 : (hl_WC a cI cZ g)[15]? = some (a 15, .inl (cI, 80, .inl (g 11))) := rfl
theorem hl_wc_16 : (hl_WC a cI cZ g)[16]? = some (a 16, .inl (cI, 80, .inl (g 12))) := rfl
theorem hl_wc_17 : (hl_WC a cI cZ g)[17]? = some (a 17, .inl (cI, 80, .inl (g 13))) := rfl
theorem hl_wc_18 : (hl_WC a cI cZ g)[18]? = some (a 18, .inl (cZ, 80, .inl (g 14))) := rfl
theorem hl_wc_19 : (hl_WC a cI cZ g)[19]? = some (a 19, .inl (cI, 80, .inl (g 15))) := rfl
theorem hl_wc_20 : (hl_WC a cI cZ g)[20]? = some (a 20, .inl (cI, 80, .inl (g 17))) := rfl
theorem hl_wc_21 : (hl_WC a cI cZ g)[21]? = some (a 21, .inl (cI, 80, .inl (g 18))) := rfl
theorem hl_wc_22 : (hl_WC a cI cZ g)[22]? = some (a 22, .inl (cI, 80, .inl (g 19))) := rfl
theorem hl_wc_23 : (hl_WC a cI cZ g)[23]? = some (a 23, .inl (cI, 4, .inl (g 21))) := rfl
theorem hl_wc_24 : (hl_WC a cI cZ g)[24]? = some (a 24, .inl (cI, 16, .inl (g 22))) := rfl
theorem hl_wc_s23 {v : Int32} : (hl_WC a cI cZ g).set 0 (a 0, .inr (5, ([.ref (a 1), .ref (a 2), .ref (a 3), .ref (a 4), .ref (a 5), .int (g 23 0)] : List Value).set 5 (.int v))) = hl_WC a cI cZ (hl_su g 23 (fun _ => v)) := rfl
theorem hl_wc_s8 {v : Int32} : (hl_WC a cI cZ g).set 2 (a 2, .inr (2, ([.ref (a 9), .ref (a 10), .ref (a 11), .ref (a 12), .ref (a 13), .int (g 8 0), .int (g 9 0)] : List Value).set 5 (.int v))) = hl_WC a cI cZ (hl_su g 8 (fun _ => v)) := rfl
theorem hl_wc_s9 {v : Int32} : (hl_WC a cI cZ g).set 2 (a 2, .inr (2, ([.ref (a 9), .ref (a 10), .ref (a 11), .ref (a 12), .ref (a 13), .int (g 8 0), .int (g 9 0)] : List Value).set 6 (.int v))) = hl_WC a cI cZ (hl_su g 9 (fun _ => v)) := rfl
theorem hl_wc_s16 {v : Int32} : (hl_WC a cI cZ g).set 3 (a 3, .inr (0, ([.ref (a 14), .ref (a 15), .ref (a 16), .ref (a 17), .ref (a 18), .ref (a 19), .int (g 16 0)] : List Value).set 6 (.int v))) = hl_WC a cI cZ (hl_su g 16 (fun _ => v)) := rfl
theorem hl_wc_s20 {v : Int32} : (hl_WC a cI cZ g).set 4 (a 4, .inr (3, ([.ref (a 20), .ref (a 21), .ref (a 22), .int (g 20 0)] : List Value).set 3 (.int v))) = hl_WC a cI cZ (hl_su g 20 (fun _ => v)) := rfl
theorem hl_wc_t0 {f : Nat → Int32} : (hl_WC a cI cZ g).set 6 (a 6, .inl (cI, 8, .inl f)) = hl_WC a cI cZ (hl_su g 0 f) := rfl
theorem hl_wc_t1 {f : Nat → Int32} : (hl_WC a cI cZ g).set 7 (a 7, .inl (cI, 8, .inl f)) = hl_WC a cI cZ (hl_su g 1 f) := rfl
theorem hl_wc_t2 {f : Nat → Int32} : (hl_WC a cI cZ g).set 8 (a 8, .inl (cI, 8, .inl f)) = hl_WC a cI cZ (hl_su g 2 f) := rfl
theorem hl_wc_t3 {f : Nat → Int32} : (hl_WC a cI cZ g).set 9 (a 9, .inl (cI, 4, .inl f)) = hl_WC a cI cZ (hl_su g 3 f) := rfl
theorem hl_wc_t4 {f : Nat → Int32} : (hl_WC a cI cZ g).set 10 (a 10, .inl (cI, 4, .inl f)) = hl_WC a cI cZ (hl_su g 4 f) := rfl
theorem hl_wc_t5 {f : Nat → Int32} : (hl_WC a cI cZ g).set 11 (a 11, .inl (cI, 4, .inl f)) = hl_WC a cI cZ (hl_su g 5 f) := rfl
theorem hl_wc_t6 {f : Nat → Int32} : (hl_WC a cI cZ g).set 12 (a 12, .inl (cI, 4, .inl f)) = hl_WC a cI cZ (hl_su g 6 f) := rfl
theorem hl_wc_t7 {f : Nat → Int32} : (hl_WC a cI cZ g).set 13 (a 13, .inl (cI, 4, .inl f)) = hl_WC a cI cZ (hl_su g 7 f) := rfl
theorem hl_wc_t10 {f : Nat → Int32} : (hl_WC a cI cZ g).set 14 (a 14, .inl (cI, 80, .inl f)) = hl_WC a cI cZ (hl_su g 10 f) := rfl
theorem hl_wc_t11 {f : Nat → Int32} : (hl_WC a cI cZ g).set 15 (a 15, .inl (cI, 80, .inl f)) = hl_WC a cI cZ (hl_su g 11 f) := rfl
theorem hl_wc_t12 {f : Nat → Int32} : (hl_WC a cI cZ g).set 16 (a 16, .inl (cI, 80, .inl f)) = hl_WC a cI cZ (hl_su g 12 f) := rfl
theorem hl_wc_t13 {f : Nat → Int32} : (hl_WC a cI cZ g).set 17 (a 17, .inl (cI, 80, .inl f)) = hl_WC a cI cZ (hl_su g 13 f) := rfl
theorem hl_wc_t14 {f : Nat → Int32} : (hl_WC a cI cZ g).set 18 (a 18, .inl (cZ, 80, .inl f)) = hl_WC a cI cZ (hl_su g 14 f) := rfl
theorem hl_wc_t15 {f : Nat → Int32} : (hl_WC a cI cZ g).set 19 (a 19, .inl (cI, 80, .inl f)) = hl_WC a cI cZ (hl_su g 15 f) := rfl
theorem hl_wc_t17 {f : Nat → Int32} : (hl_WC a cI cZ g).set 20 (a 20, .inl (cI, 80, .inl f)) = hl_WC a cI cZ (hl_su g 17 f) := rfl
theorem hl_wc_t18 {f : Nat → Int32} : (hl_WC a cI cZ g).set 21 (a 21, .inl (cI, 80, .inl f)) = hl_WC a cI cZ (hl_su g 18 f) := rfl
theorem hl_wc_t19 {f : Nat → Int32} : (hl_WC a cI cZ g).set 22 (a 22, .inl (cI, 80, .inl f)) = hl_WC a cI cZ (hl_su g 19 f) := rfl
theorem hl_wc_t21 {f : Nat → Int32} : (hl_WC a cI cZ g).set 23 (a 23, .inl (cI, 4, .inl f)) = hl_WC a cI cZ (hl_su g 21 f) := rfl
theorem hl_wc_t22 {f : Nat → Int32} : (hl_WC a cI cZ g).set 24 (a 24, .inl (cI, 16, .inl f)) = hl_WC a cI cZ (hl_su g 22 f) := rfl
end
def hl_WM (b : Nat → Nat) (cI cZ : ClassId) (t : Nat → Nat → Int32) : va_W := [(b 0, .inr (6, [.ref (b 1), .ref (b 2), .ref (b 3), .ref (b 4), .ref (b 5), .ref (b 6), .int (t 6 0), .int (t 7 0), .int (t 8 0), .ref (b 7), .ref (b 8), .ref (b 9), .ref (b 10), .ref (b 11), .ref (b 12), .ref (b 13), .ref (b 14), .ref (b 15), .int (t 18 0), .ref (b 16), .ref (b 17), .ref (b 18), .int (t 22 0), .int (t 23 0)])), (b 1, .inl (cI, 8, .inl (t 0))), (b 2, .inl (cI, 8, .inl (t 1))), (b 3, .inl (cI, 8, .inl (t 2))), (b 4, .inl (cI, 4, .inl (t 3))), (b 5, .inl (cI, 4, .inl (t 4))), (b 6, .inl (cI, 4, .inl (t 5))), (b 7, .inl (cI, 16, .inl (t 9))), (b 8, .inl (cI, 1208, .inl (t 10))), (b 9, .inl (cI, 1208, .inl (t 11))), (b 10, .inl (cI, 80, .inl (t 12))), (b 11, .inl (cI, 80, .inl (t 13))), (b 12, .inl (cI, 80, .inl (t 14))), (b 13, .inl (cI, 80, .inl (t 15))), (b 14, .inl (cZ, 80, .inl (t 16))), (b 15, .inl (cI, 80, .inl (t 17))), (b 16, .inl (cI, 80, .inl (t 19))), (b 17, .inl (cI, 80, .inl (t 20))), (b 18, .inl (cI, 80, .inl (t 21)))]
section
variable {b : Nat → Nat} {cI cZ : ClassId} {t : Nat → Nat → Int32}
theorem hl_wm_0 : (hl_WM b cI cZ t)[0]? = some (b 0, .inr (6, [.ref (b 1), .ref (b 2), .ref (b 3), .ref (b 4), .ref (b 5), .ref (b 6), .int (t 6 0), .int (t 7 0), .int (t 8 0), .ref (b 7), .ref (b 8), .ref (b 9), .ref (b 10), .ref (b 11), .ref (b 12), .ref (b 13), .ref (b 14), .ref (b 15), .int (t 18 0), .ref (b 16), .ref (b 17), .ref (b 18), .int (t 22 0), .int (t 23 0)])) := rfl
theorem hl_wm_1 : (hl_WM b cI cZ t)[1]? = some (b 1, .inl (cI, 8, .inl (t 0))) := rfl
theorem hl_wm_2 : (hl_WM b cI cZ t)[2]? = some (b 2, .inl (cI, 8, .inl (t 1))) := rfl
theorem hl_wm_3 : (hl_WM b cI cZ t)[3]? = some (b 3, .inl (cI, 8, .inl (t 2))) := rfl
theorem hl_wm_4 : (hl_WM b cI cZ t)[4]? = some (b 4, .inl (cI, 4, .inl (t 3))) := rfl
theorem hl_wm_5 : (hl_WM b cI cZ t)[5]? = some (b 5, .inl (cI, 4, .inl (t 4))) := rfl
theorem hl_wm_6 : (hl_WM b cI cZ t)[6]? = some (b 6, .inl (cI, 4, .inl (t 5))) := rfl
theorem hl_wm_7 : (hl_WM b cI cZ t)[7]? = some (b 7, .inl (cI, 16, .inl (t 9))) := rfl
theorem hl_wm_8 : (hl_WM b cI cZ t)[8]? = some (b 8, .inl (cI, 1208, .inl (t 10))) := rfl
theorem hl_wm_9 : (hl_WM b cI cZ t)[9]? = some (b 9, .inl (cI, 1208, .inl (t 11))) := rfl
theorem hl_wm_10 : (hl_WM b cI cZ t)[10]? = some (b 10, .inl (cI, 80, .inl (t 12))) := rfl
theorem hl_wm_11 : (hl_WM b cI cZ t)[11]? = some (b 11, .inl (cI, 80, .inl (t 13))) := rfl
theorem hl_wm_12 : (hl_WM b cI cZ t)[12]? = some (b 12, .inl (cI, 80, .inl (t 14))) := rfl
theorem hl_wm_13 : (hl_WM b cI cZ t)[13]? = some (b 13, .inl (cI, 80, .inl (t 15))) := rfl
theorem hl_wm_14 : (hl_WM b cI cZ t)[14]? = some (b 14, .inl (cZ, 80, .inl (t 16))) := rfl
theorem hl_wm_15 : (hl_WM b cI cZ t)[15]? = some (b 15, .inl (cI, 80, .inl (t 17))) := rfl
theorem hl_wm_16 : (hl_WM b cI cZ t)[16]? = some (b 16, .inl (cI, 80, .inl (t 19))) := rfl
theorem hl_wm_17 : (hl_WM b cI cZ t)[17]? = some (b 17, .inl (cI, 80, .inl (t 20))) := rfl
theorem hl_wm_18 : (hl_WM b cI cZ t)[18]? = some (b 18, .inl (cI, 80, .inl (t 21))) := rfl
theorem hl_wm_s6 {v : Int32} : (hl_WM b cI cZ t).set 0 (b 0, .inr (6, ([.ref (b 1), .ref (b 2), .ref (b 3), .ref (b 4), .ref (b 5), .ref (b 6), .int (t 6 0), .int (t 7 0), .int (t 8 0), .ref (b 7), .ref (b 8), .ref (b 9), .ref (b 10), .ref (b 11), .ref (b 12), .ref (b 13), .ref (b 14), .ref (b 15), .int (t 18 0), .ref (b 16), .ref (b 17), .ref (b 18), .int (t 22 0), .int (t 23 0)] : List Value).set 6 (.int v))) = hl_WM b cI cZ (hl_su t 6 (fun _ => v)) := rfl
theorem hl_wm_s7 {v : Int32} : (hl_WM b cI cZ t).set 0 (b 0, .inr (6, ([.ref (b 1), .ref (b 2), .ref (b 3), .ref (b 4), .ref (b 5), .ref (b 6), .int (t 6 0), .int (t 7 0), .int (t 8 0), .ref (b 7), .ref (b 8), .ref (b 9), .ref (b 10), .ref (b 11), .ref (b 12), .ref (b 13), .ref (b 14), .ref (b 15), .int (t 18 0), .ref (b 16), .ref (b 17), .ref (b 18), .int (t 22 0), .int (t 23 0)] : List Value).set 7 (.int v))) = hl_WM b cI cZ (hl_su t 7 (fun _ => v)) := rfl
theorem hl_wm_s8 {v : Int32} : (hl_WM b cI cZ t).set 0 (b 0, .inr (6, ([.ref (b 1), .ref (b 2), .ref (b 3), .ref (b 4), .ref (b 5), .ref (b 6), .int (t 6 0), .int (t 7 0), .int (t 8 0), .ref (b 7), .ref (b 8), .ref (b 9), .ref (b 10), .ref (b 11), .ref (b 12), .ref (b 13), .ref (b 14), .ref (b 15), .int (t 18 0), .ref (b 16), .ref (b 17), .ref (b 18), .int (t 22 0), .int (t 23 0)] : List Value).set 8 (.int v))) = hl_WM b cI cZ (hl_su t 8 (fun _ => v)) := rfl
theorem hl_wm_s18 {v : Int32} : (hl_WM b cI cZ t).set 0 (b 0, .inr (6, ([.ref (b 1), .ref (b 2), .ref (b 3), .ref (b 4), .ref (b 5), .ref (b 6), .int (t 6 0), .int (t 7 0), .int (t 8 0), .ref (b 7), .ref (b 8), .ref (b 9), .ref (b 10), .ref (b 11), .ref (b 12), .ref (b 13), .ref (b 14), .ref (b 15), .int (t 18 0), .ref (b 16), .ref (b 17), .ref (b 18), .int (t 22 0), .int (t 23 0)] : List Value).set 18 (.int v))) = hl_WM b cI cZ (hl_su t 18 (fun _ => v)) := rfl
theorem hl_wm_s22 {v : Int32} : (hl_WM b cI cZ t).set 0 (b 0, .inr (6, ([.ref (b 1), .ref (b 2), .ref (b 3), .ref (b 4), .ref (b 5), .ref (b 6), .int (t 6 0), .int (t 7 0), .int (t 8 0), .ref (b 7), .ref (b 8), .ref (b 9), .ref (b 10), .ref (b 11), .ref (b 12), .ref (b 13), .ref (b 14), .ref (b 15), .int (t 18 0), .ref (b 16), .ref (b 17), .ref (b 18), .int (t 22 0), .int (t 23 0)] : List Value).set 22 (.int v))) = hl_WM b cI cZ (hl_su t 22 (fun _ => v)) := rfl
theorem hl_wm_s23 {v : Int32} : (hl_WM b cI cZ t).set 0 (b 0, .inr (6, ([.ref (b 1), .ref (b 2), .ref (b 3), .ref (b 4), .ref (b 5), .ref (b 6), .int (t 6 0), .int (t 7 0), .int (t 8 0), .ref (b 7), .ref (b 8), .ref (b 9), .ref (b 10), .ref (b 11), .ref (b 12), .ref (b 13), .ref (b 14), .ref (b 15), .int (t 18 0), .ref (b 16), .ref (b 17), .ref (b 18), .int (t 22 0), .int (t 23 0)] : List Value).set 23 (.int v))) = hl_WM b cI cZ (hl_su t 23 (fun _ => v)) := rfl
theorem hl_wm_t0 {f : Nat → Int32} : (hl_WM b cI cZ t).set 1 (b 1, .inl (cI, 8, .inl f)) = hl_WM b cI cZ (hl_su t 0 f) := rfl
theorem hl_wm_t1 {f : Nat → Int32} : (hl_WM b cI cZ t).set 2 (b 2, .inl (cI, 8, .inl f)) = hl_WM b cI cZ (hl_su t 1 f) := rfl
theorem hl_wm_t2 {f : Nat → Int32} : (hl_WM b cI cZ t).set 3 (b 3, .inl (cI, 8, .inl f)) = hl_WM b cI cZ (hl_su t 2 f) := rfl
theorem hl_wm_t3 {f : Nat → Int32} : (hl_WM b cI cZ t).set 4 (b 4, .inl (cI, 4, .inl f)) = hl_WM b cI cZ (hl_su t 3 f) := rfl
theorem hl_wm_t4 {f : Nat → Int32} : (hl_WM b cI cZ t).set 5 (b 5, .inl (cI, 4, .inl f)) = hl_WM b cI cZ (hl_su t 4 f) := rfl
theorem hl_wm_t5 {f : Nat → Int32} : (hl_WM b cI cZ t).set 6 (b 6, .inl (cI, 4, .inl f)) = hl_WM b cI cZ (hl_su t 5 f) := rfl
theorem hl_wm_t9 {f : Nat → Int32} : (hl_WM b cI cZ t).set 7 (b 7, .inl (cI, 16, .inl f)) = hl_WM b cI cZ (hl_su t 9 f) := rfl
theorem hl_wm_t10 {f : Nat → Int32} : (hl_WM b cI cZ t).set 8 (b 8, .inl (cI, 1208, .inl f)) = hl_WM b cI cZ (hl_su t 10 f) := rfl
theorem hl_wm_t11 {f : Nat → Int32} : (hl_WM b cI cZ t).set 9 (b 9, .inl (cI, 1208, .inl f)) = hl_WM b cI cZ (hl_su t 11 f) := rfl
theorem hl_wm_t12 {f : Nat → Int32} : (hl_WM b cI cZ t).set 10 (b 10, .inl (cI, 80, .inl f)) = hl_WM b cI cZ (hl_su t 12 f) := rfl
theorem hl_wm_t13 {f : Nat → Int32} : (hl_WM b cI cZ t).set 11 (b 11, .inl (cI, 80, .inl f)) = hl_WM b cI cZ (hl_su t 13 f) := rfl
theorem hl_wm_t14 {f : Nat → Int32} : (hl_WM b cI cZ t).set 12 (b 12, .inl (cI, 80, .inl f)) = hl_WM b cI cZ (hl_su t 14 f) := rfl
theorem hl_wm_t15 {f : Nat → Int32} : (hl_WM b cI cZ t).set 13 (b 13, .inl (cI, 80, .inl f)) = hl_WM b cI cZ (hl_su t 15 f) := rfl
theorem hl_wm_t16 {f : Nat → Int32} : (hl_WM b cI cZ t).set 14 (b 14, .inl (cZ, 80, .inl f)) = hl_WM b cI cZ (hl_su t 16 f) := rfl
theorem hl_wm_t17 {f : Nat → Int32} : (hl_WM b cI cZ t).set 15 (b 15, .inl (cI, 80, .inl f)) = hl_WM b cI cZ (hl_su t 17 f) := rfl
theorem hl_wm_t19 {f : Nat → Int32} : (hl_WM b cI cZ t).set 16 (b 16, .inl (cI, 80, .inl f)) = hl_WM b cI cZ (hl_su t 19 f) := rfl
theorem hl_wm_t20 {f : Nat → Int32} : (hl_WM b cI cZ t).set 17 (b 17, .inl (cI, 80, .inl f)) = hl_WM b cI cZ (hl_su t 20 f) := rfl
theorem hl_wm_t21 {f : Nat → Int32} : (hl_WM b cI cZ t).set 18 (b 18, .inl (cI, 80, .inl f)) = hl_WM b cI cZ (hl_su t 21 f) := rfl
end
end
section
section HLN
variable {p : Program} {l : Launch} {e : Env} {R : Room} {s : State} {m : MethodId} {args : Array Value} {below : List Frame} {meth : Method} {c : Code}
variable {nL : Nat} {D : va_G} {A : Nat → Prop} {cells slots : Nat} {Q : State → Prop} {pc : Nat} {ls : List (Nat × Value)} {st : List Value} {a : Nat → Nat} {cI cZ : ClassId} {T : Nat → Nat → Int32}
theorem hl_nmC (k : ∀ z, z = T → hl_X p l e R s m args below meth c nL D A cells slots Q (hl_WC a cI cZ z) pc ls st) : hl_X p l e R s m args below meth c nL D A cells slots Q (hl_WC a cI cZ T) pc ls st := k T rfl
theorem hl_nmM (k : ∀ z, z = T → hl_X p l e R s m args below meth c nL D A cells slots Q (hl_WM a cI cZ z) pc ls st) : hl_X p l e R s m args below meth c nL D A cells slots Q (hl_WM a cI cZ T) pc ls st := k T rfl
end HLN
theorem hl_inc (i : Nat) : nI i + Int32.ofInt 1 = nI (i + 1) := nI_1 i
theorem hl_row {x y : Int32} (hx : vp_in x 4) (hy : vp_in y 2) : vp_in (x * 2 + y) 8 := by
  obtain ⟨a, ha, rfl⟩ := vp_in_of hx (by decide)
  obtain ⟨b, hb, rfl⟩ := vp_in_of hy (by decide)
  show vp_in (nI a * nI 2 + nI b) 8
  rw [pk_mul, nI_add]
  exact vp_in_nI (by omega) (by decide)
theorem hl_rowM {x y : Int32} (hx : vp_in x 4) (hy : vp_in y 2) : vp_in (2 * x + y) 8 := by
  rw [Int32.mul_comm]
  exact hl_row hx hy
theorem hl_sq {x y : Int32} (hx : vp_in x 4) (hy : vp_in y 4) : vp_in (x * 4 + y) 16 := by
  obtain ⟨a, ha, rfl⟩ := vp_in_of hx (by decide)
  obtain ⟨b, hb, rfl⟩ := vp_in_of hy (by decide)
  show vp_in (nI a * nI 4 + nI b) 16
  rw [pk_mul, nI_add]
  exact vp_in_nI (by omega) (by decide)
theorem hl_sqM {x y : Int32} (hx : vp_in x 4) (hy : vp_in y 4) : vp_in (4 * x + y) 16 := by
  rw [Int32.mul_comm]
  exact hl_sq hx hy
theorem hl_in {x : Int32} {n : Nat} (k : Int32) (hk : k.toInt = n) (h0 : ¬ x < 0) (h1 : x < k) : vp_in x n :=
  vp_in_iff.mpr ⟨Int.not_lt.mp (fun h => h0 (Int32.lt_iff_toInt_lt.mpr h)), by rw [← hk]; exact Int32.lt_iff_toInt_lt.mp h1⟩
theorem hl_in0 {x : Int32} {n : Nat} (h : vp_in x n) : ¬ x < 0 := fun z => h (Or.inl z)
theorem hl_in1 {x : Int32} {n : Nat} (k : Int32) (hk : k.toInt = n) (h : vp_in x n) : x < k :=
  Int32.lt_iff_toInt_lt.mpr (by rw [hk]; exact (vp_in_iff.mp h).2)
end
section
/-! What the small methods of the class answer (r_) and do to the contents (f_), by their own roads; b_: one step of a loop -/
abbrev hl_i (x : Int32) : Nat := x.toNatClampNeg
def f_X4_change (g : Nat → Nat → Int32) (x y n q : Int32) : Nat → Nat → Int32 :=
  hl_su (hl_su g 0 (upd (g 0) (x * 2 + y).toNatClampNeg n)) 1 (upd (g 1) (x * 2 + y).toNatClampNeg q)
def f_X4_addSleeper (g : Nat → Nat → Int32) (x y : Int32) : Nat → Nat → Int32 := hl_su g 2 (upd (g 2) (x * 2 + y).toNatClampNeg (g 2 (x * 2 + y).toNatClampNeg + 1))
def b_X4_endNight (k : Nat) (z : Nat → Nat → Int32) : Nat → Nat → Int32 := hl_su z 2 (upd (z 2) k 0)
def f_X4_endNight (g : Nat → Nat → Int32) : Nat → Nat → Int32 := hl_it b_X4_endNight 0 8 g
def r_X4_freeOf (g : Nat → Nat → Int32) (x y : Int32) : Int32 := if 0 < (g 0 (x * 2 + y).toNatClampNeg) - (g 2 (x * 2 + y).toNatClampNeg) then (g 0 (x * 2 + y).toNatClampNeg) - (g 2 (x * 2 + y).toNatClampNeg) else 0
def f_X2_addClean (g : Nat → Nat → Int32) (x n : Int32) : Nat → Nat → Int32 := hl_su g 3 (upd (g 3) x.toNatClampNeg (g 3 x.toNatClampNeg + n))
def r_X2_awayOf (g : Nat → Nat → Int32) (x : Int32) : Int32 := g 4 x.toNatClampNeg + g 5 x.toNatClampNeg + g 6 x.toNatClampNeg + g 7 x.toNatClampNeg
def b_X2_giverFor (g : Nat → Nat → Int32) (k : Nat) (z : Int32 × Int32) : Int32 × Int32 := if g 3 k ≤ z.2 then z else (nI k, g 3 k)
def r_X2_giverFor (g : Nat → Nat → Int32) (x : Int32) : Int32 := if g 3 x.toNatClampNeg ≤ 0 then (hl_it (b_X2_giverFor g) 0 4 (-1, 0)).1 else x
def f_X2_take (g : Nat → Nat → Int32) (x y : Int32) : Nat → Nat → Int32 :=
  let g1 := hl_su g 3 (upd (g 3) y.toNatClampNeg (g 3 y.toNatClampNeg - 1))
  let g2 := hl_su g1 4 (upd (g1 4) x.toNatClampNeg (g1 4 x.toNatClampNeg + 1))
  if y = x then g2 else hl_su g2 9 (fun _ => g2 9 0 + 1)
def b_X2_endNight (k : Nat) (g : Nat → Nat → Int32) : Nat → Nat → Int32 :=
  let g1 := hl_su g 7 (upd (g 7) k (g 7 k + g 6 k))
  let g2 := hl_su g1 6 (upd (g1 6) k (g1 5 k))
  let g3 := hl_su g2 5 (upd (g2 5) k (g2 4 k))
  let g4 := hl_su g3 4 (upd (g3 4) k 0)
  let g5 := hl_su g4 3 (upd (g4 3) k (g4 3 k + g4 7 k))
  if g4 8 0 = 0 then hl_su g5 7 (upd (g5 7) k 0) else g4
def f_X2_endNight (g : Nat → Nat → Int32) : Nat → Nat → Int32 := hl_su (hl_it b_X2_endNight 0 4 g) 9 (fun _ => 0)
def f_X0_add (g : Nat → Nat → Int32) (x y z v : Int32) : Nat → Nat → Int32 :=
  let g1 := hl_su g 10 (upd (g 10) (g 16 0).toNatClampNeg x)
  let g2 := hl_su g1 11 (upd (g1 11) (g 16 0).toNatClampNeg y)
  let g3 := hl_su g2 12 (upd (g2 12) (g 16 0).toNatClampNeg z)
  let g4 := hl_su g3 13 (upd (g3 13) (g 16 0).toNatClampNeg v)
  let g5 := hl_su g4 15 (upd (g4 15) (g 16 0).toNatClampNeg (-1))
  hl_su g5 16 (fun _ => g5 16 0 + 1)
def f_X0_arrive (g : Nat → Nat → Int32) (x y : Int32) : Nat → Nat → Int32 :=
  let g1 := hl_su g 14 (upd (g 14) x.toNatClampNeg 1)
  hl_su g1 15 (upd (g1 15) x.toNatClampNeg y)
def b_X0_countFor (g : Nat → Nat → Int32) (x y z : Int32) (k : Nat) (n : Int32) : Int32 := if g 11 k = x ∧ g 12 k = y ∧ g 13 k = z then n + 1 else n
def b_X0_missedIn (g : Nat → Nat → Int32) (x : Int32) (k : Nat) (n : Int32) : Int32 := if g 13 k = x ∧ g 14 k = 0 then n + 1 else n
def b_X0_missedAt (g : Nat → Nat → Int32) (x y z : Int32) (k : Nat) (n : Int32) : Int32 := if g 11 k = x ∧ ¬ g 13 k < y ∧ ¬ z ≤ g 13 k ∧ g 14 k = 0 then n + 1 else n
def b_X0_sleepersAt (g : Nat → Nat → Int32) (x y z : Int32) (k : Nat) (n : Int32) : Int32 := if g 15 k = x ∧ g 12 k = y ∧ g 13 k = z then n + 1 else n
def f_X3_add (g : Nat → Nat → Int32) (x y z : Int32) : Nat → Nat → Int32 :=
  let g1 := hl_su g 17 (upd (g 17) (g 20 0).toNatClampNeg x)
  let g2 := hl_su g1 18 (upd (g1 18) (g 20 0).toNatClampNeg y)
  let g3 := hl_su g2 19 (upd (g2 19) (g 20 0).toNatClampNeg z)
  if g 20 0 < 80 then hl_su g3 20 (fun _ => g3 20 0 + 1) else g
def b_X3_ofGuest (g : Nat → Nat → Int32) (x : Int32) (k : Nat) (n : Int32) : Int32 := if g 17 k = x then n + g 19 k else n
def r_X3_takeFrom (g : Nat → Nat → Int32) (x y n : Int32) : Int32 := if g 17 x.toNatClampNeg = y then (if n < g 19 x.toNatClampNeg then n else g 19 x.toNatClampNeg) else 0
def f_X3_takeFrom (g : Nat → Nat → Int32) (x y n : Int32) : Nat → Nat → Int32 := if g 17 x.toNatClampNeg = y then hl_su g 19 (upd (g 19) x.toNatClampNeg (g 19 x.toNatClampNeg - (if n < g 19 x.toNatClampNeg then n else g 19 x.toNatClampNeg))) else g
def f_X1_receive (g : Nat → Nat → Int32) (x n : Int32) : Nat → Nat → Int32 := hl_su g 21 (upd (g 21) x.toNatClampNeg (g 21 x.toNatClampNeg + n))
def f_X1_owe (g : Nat → Nat → Int32) (x y n : Int32) : Nat → Nat → Int32 :=
  let g1 := hl_su g 22 (upd (g 22) (x * 4 + y).toNatClampNeg (g 22 (x * 4 + y).toNatClampNeg + n))
  hl_su g1 22 (upd (g1 22) (y * 4 + x).toNatClampNeg (g1 22 (y * 4 + x).toNatClampNeg - n))
def r_X1_between (g : Nat → Nat → Int32) (x y : Int32) : Int32 := if 0 < g 22 (x * 4 + y).toNatClampNeg then g 22 (x * 4 + y).toNatClampNeg else 0
def f_X1_pay (g : Nat → Nat → Int32) (x y : Int32) : Nat → Nat → Int32 :=
  let g1 := hl_su g 21 (upd (g 21) x.toNatClampNeg (g 21 x.toNatClampNeg - r_X1_between g x y))
  let g2 := hl_su g1 21 (upd (g1 21) y.toNatClampNeg (g1 21 y.toNatClampNeg + r_X1_between g x y))
  f_X1_owe g2 y x (r_X1_between g x y)
def b_X1_payIn (i : Nat) (k : Nat) (z : (Nat → Nat → Int32) × Int32) : (Nat → Nat → Int32) × Int32 := (f_X1_pay z.1 (nI i) (nI k), z.2 + r_X1_between z.1 (nI i) (nI k))
def b_X1_payAll (i : Nat) (z : (Nat → Nat → Int32) × Int32) : (Nat → Nat → Int32) × Int32 := hl_it (b_X1_payIn i) 0 4 z
end
section
set_option maxHeartbeats 4000000 in
set_option maxRecDepth 100000 in
theorem c_X4_row (l : Launch) (D : va_G) (cI cZ cJ : ClassId) (a : Nat → Nat) (g : Nat → Nat → Int32) (x y : Int32) : hl_KI D (hl_ty cI cZ cJ) l yX4_row wsX4_row ({ frames := 0, cells := 0, slots := 0, locals := 0 } : Room) 0 0 [.int x, .int y] (hl_WC a cI cZ g) (fun r w => r = (x * 2 + y) ∧ w = hl_WC a cI cZ g) := by
  refine hl_KI_of (cc := cX4_row) (maxL := 2) .int rfl (fun _ => Or.inr rfl) (by decide) rfl (Nat.le_of_ble_eq_true rfl) ?_
  intro p e s m args below meth c A Q h hend
  refine hl_ls (ls' := [(0, .int x), (1, .int y)]) rfl ?_
  refine hl_iload_n h 0 dX4_row_0 rfl ?_
  refine hl_iconst h 2 dX4_row_1 (by decide) ?_
  refine hl_imul h dX4_row_2 ?_
  refine hl_iload_n h 1 dX4_row_3 rfl ?_
  refine hl_iadd h dX4_row_4 ?_
  exact hend dX4_row_5 (fun h9 => nomatch h9) (by
    exact ⟨by rfl, (congrArg (hl_WC a cI cZ) (by rfl))⟩)

set_option maxHeartbeats 4000000 in
set_option maxRecDepth 100000 in
theorem c_X4_countOf (l : Launch) (D : va_G) (cI cZ cJ : ClassId) (a : Nat → Nat) (g : Nat → Nat → Int32) (x y : Int32) (h1 : vp_in x 4) (h2 : vp_in y 2) : hl_KI D (hl_ty cI cZ cJ) l yX4_countOf wsX4_countOf ({ frames := 1, cells := 0, slots := 0, locals := 21 } : Room) 0 0 [.ref (a 1), .int x, .int y] (hl_WC a cI cZ g) (fun r w => r = (g 0 (x * 2 + y).toNatClampNeg) ∧ w = hl_WC a cI cZ g) := by
  refine hl_KI_of (cc := cX4_countOf) (maxL := 3) .int rfl (fun _ => Or.inr rfl) (by decide) rfl (Nat.le_of_ble_eq_true rfl) ?_
  intro p e s m args below meth c A Q h hend
  have hi4 : ∀ z ∈ wsX40, z ∈ wsX4_countOf := by decide +kernel
  have hrow : vp_in (x * 2 + y) 8 := hl_row h1 h2
  refine hl_ls (ls' := [(0, .ref (a 1)), (1, .int x), (2, .int y)]) rfl ?_
  refine hl_aload_n h 0 dX4_countOf_0 rfl ?_
  refine hl_get h hi4 hl_wc_1 rfl 0 rfl dX4_countOf_1 (by decide) (by decide +kernel) ?_
  refine hl_iload_n h 1 dX4_countOf_4 rfl ?_
  refine hl_iload_n h 2 dX4_countOf_5 rfl ?_
  refine hl_callSiD h (st := [.ref (a 6)]) (c_X4_row l D cI cZ cJ a g x y) (va_cwS 2 h.2.2.2.2.1 gX4_countOf_X4_row rfl rfl rfl (by decide +kernel) ⟨Nat.le_of_ble_eq_true rfl, Nat.le_of_ble_eq_true rfl⟩) dX4_countOf_6 rfl (Nat.le_of_ble_eq_true rfl) ⟨Nat.le_of_ble_eq_true rfl, Nat.le_of_ble_eq_true rfl⟩ rfl ?_
  refine hl_ild h hl_wc_6 0 rfl dX4_countOf_9 (by with_reducible assumption) ?_
  exact hend dX4_countOf_10 (fun h9 => nomatch h9) (by
    exact ⟨by rfl, (congrArg (hl_WC a cI cZ) (by rfl))⟩)

set_option maxHeartbeats 4000000 in
set_option maxRecDepth 100000 in
theorem c_X4_priceOf (l : Launch) (D : va_G) (cI cZ cJ : ClassId) (a : Nat → Nat) (g : Nat → Nat → Int32) (x y : Int32) (h1 : vp_in x 4) (h2 : vp_in y 2) : hl_KI D (hl_ty cI cZ cJ) l yX4_priceOf wsX4_priceOf ({ frames := 1, cells := 0, slots := 0, locals := 21 } : Room) 0 0 [.ref (a 1), .int x, .int y] (hl_WC a cI cZ g) (fun r w => r = (g 1 (x * 2 + y).toNatClampNeg) ∧ w = hl_WC a cI cZ g) := by
  refine hl_KI_of (cc := cX4_priceOf) (maxL := 3) .int rfl (fun _ => Or.inr rfl) (by decide) rfl (Nat.le_of_ble_eq_true rfl) ?_
  intro p e s m args below meth c A Q h hend
  have hi4 : ∀ z ∈ wsX40, z ∈ wsX4_priceOf := by decide +kernel
  have hrow : vp_in (x * 2 + y) 8 := hl_row h1 h2
  refine hl_ls (ls' := [(0, .ref (a 1)), (1, .int x), (2, .int y)]) rfl ?_
  refine hl_aload_n h 0 dX4_priceOf_0 rfl ?_
  refine hl_get h hi4 hl_wc_1 rfl 1 rfl dX4_priceOf_1 (by decide) (by decide +kernel) ?_
  refine hl_iload_n h 1 dX4_priceOf_4 rfl ?_
  refine hl_iload_n h 2 dX4_priceOf_5 rfl ?_
  refine hl_callSiD h (st := [.ref (a 7)]) (c_X4_row l D cI cZ cJ a g x y) (va_cwS 2 h.2.2.2.2.1 gX4_priceOf_X4_row rfl rfl rfl (by decide +kernel) ⟨Nat.le_of_ble_eq_true rfl, Nat.le_of_ble_eq_true rfl⟩) dX4_priceOf_6 rfl (Nat.le_of_ble_eq_true rfl) ⟨Nat.le_of_ble_eq_true rfl, Nat.le_of_ble_eq_true rfl⟩ rfl ?_
  refine hl_ild h hl_wc_7 0 rfl dX4_priceOf_9 (by with_reducible assumption) ?_
  exact hend dX4_priceOf_10 (fun h9 => nomatch h9) (by
    exact ⟨by rfl, (congrArg (hl_WC a cI cZ) (by rfl))⟩)

set_option maxHeartbeats 4000000 in
set_option maxRecDepth 100000 in
theorem c_X4_sleepersOf (l : Launch) (D : va_G) (cI cZ cJ : ClassId) (a : Nat → Nat) (g : Nat → Nat → Int32) (x y : Int32) (h1 : vp_in x 4) (h2 : vp_in y 2) : hl_KI D (hl_ty cI cZ cJ) l yX4_sleepersOf wsX4_sleepersOf ({ frames := 1, cells := 0, slots := 0, locals := 21 } : Room) 0 0 [.ref (a 1), .int x, .int y] (hl_WC a cI cZ g) (fun r w => r = (g 2 (x * 2 + y).toNatClampNeg) ∧ w = hl_WC a cI cZ g) := by
  refine hl_KI_of (cc := cX4_sleepersOf) (maxL := 3) .int rfl (fun _ => Or.inr rfl) (by decide) rfl (Nat.le_of_ble_eq_true rfl) ?_
  intro p e s m args below meth c A Q h hend
  have hi4 : ∀ z ∈ wsX40, z ∈ wsX4_sleepersOf := by decide +kernel
  have hrow : vp_in (x * 2 + y) 8 := hl_row h1 h2
  refine hl_ls (ls' := [(0, .ref (a 1)), (1, .int x), (2, .int y)]) rfl ?_
  refine hl_aload_n h 0 dX4_sleepersOf_0 rfl ?_
  refine hl_get h hi4 hl_wc_1 rfl 2 rfl dX4_sleepersOf_1 (by decide) (by decide +kernel) ?_
  refine hl_iload_n h 1 dX4_sleepersOf_4 rfl ?_
  refine hl_iload_n h 2 dX4_sleepersOf_5 rfl ?_
  refine hl_callSiD h (st := [.ref (a 8)]) (c_X4_row l D cI cZ cJ a g x y) (va_cwS 2 h.2.2.2.2.1 gX4_sleepersOf_X4_row rfl rfl rfl (by decide +kernel) ⟨Nat.le_of_ble_eq_true rfl, Nat.le_of_ble_eq_true rfl⟩) dX4_sleepersOf_6 rfl (Nat.le_of_ble_eq_true rfl) ⟨Nat.le_of_ble_eq_true rfl, Nat.le_of_ble_eq_true rfl⟩ rfl ?_
  refine hl_ild h hl_wc_8 0 rfl dX4_sleepersOf_9 (by with_reducible assumption) ?_
  exact hend dX4_sleepersOf_10 (fun h9 => nomatch h9) (by
    exact ⟨by rfl, (congrArg (hl_WC a cI cZ) (by rfl))⟩)

set_option maxHeartbeats 4000000 in
set_option maxRecDepth 100000 in
theorem c_X4_freeOf (l : Launch) (D : va_G) (cI cZ cJ : ClassId) (a : Nat → Nat) (g : Nat → Nat → Int32) (x y : Int32) (h1 : vp_in x 4) (h2 : vp_in y 2) : hl_KI D (hl_ty cI cZ cJ) l yX4_freeOf wsX4_freeOf ({ frames := 2, cells := 0, slots := 0, locals := 43 } : Room) 0 0 [.ref (a 1), .int x, .int y] (hl_WC a cI cZ g) (fun r w => r = r_X4_freeOf g x y ∧ w = hl_WC a cI cZ g) := by
  refine hl_KI_of (cc := cX4_freeOf) (maxL := 3) .int rfl (fun _ => Or.inr rfl) (by decide) rfl (Nat.le_of_ble_eq_true rfl) ?_
  intro p e s m args below meth c A Q h hend
  refine hl_ls (ls' := [(0, .ref (a 1)), (1, .int x), (2, .int y)]) rfl ?_
  refine hl_iconst h 0 dX4_freeOf_0 (by decide) ?_
  refine hl_aload_n h 0 dX4_freeOf_1 rfl ?_
  refine hl_iload_n h 1 dX4_freeOf_2 rfl ?_
  refine hl_iload_n h 2 dX4_freeOf_3 rfl ?_
  refine hl_callViD h (st := [.int 0]) (c_X4_countOf l D cI cZ cJ a g x y (by with_reducible assumption) (by with_reducible assumption)) (cwV 2 h.2.2.2.2.1 gX4_freeOf_X4_countOf rfl rfl rfl (by decide +kernel) ⟨Nat.le_of_ble_eq_true rfl, Nat.le_of_ble_eq_true rfl⟩) hl_wc_1 rfl dX4_freeOf_4 rfl (Nat.le_of_ble_eq_true rfl) ⟨Nat.le_of_ble_eq_true rfl, Nat.le_of_ble_eq_true rfl⟩ rfl ?_
  refine hl_aload_n h 0 dX4_freeOf_7 rfl ?_
  refine hl_iload_n h 1 dX4_freeOf_8 rfl ?_
  refine hl_iload_n h 2 dX4_freeOf_9 rfl ?_
  refine hl_callViD h (st := [.int ((g 0 (x * 2 + y).toNatClampNeg)), .int 0]) (c_X4_sleepersOf l D cI cZ cJ a g x y (by with_reducible assumption) (by with_reducible assumption)) (cwV 2 h.2.2.2.2.1 gX4_freeOf_X4_sleepersOf rfl rfl rfl (by decide +kernel) ⟨Nat.le_of_ble_eq_true rfl, Nat.le_of_ble_eq_true rfl⟩) hl_wc_1 rfl dX4_freeOf_10 rfl (Nat.le_of_ble_eq_true rfl) ⟨Nat.le_of_ble_eq_true rfl, Nat.le_of_ble_eq_true rfl⟩ rfl ?_
  refine hl_isub h dX4_freeOf_13 ?_
  refine hl_max h dX4_freeOf_14 (by decide +kernel) (by decide +kernel) (by decide +kernel) (by decide +kernel) (Nat.le_of_ble_eq_true rfl) (Nat.le_of_ble_eq_true rfl) (Nat.le_of_ble_eq_true rfl) (Nat.le_of_ble_eq_true rfl) ?_
  exact hend dX4_freeOf_17 (fun h9 => nomatch h9) (by
    exact ⟨rfl, rfl⟩)

set_option maxHeartbeats 4000000 in
set_option maxRecDepth 100000 in
theorem c_X4_change (l : Launch) (D : va_G) (cI cZ cJ : ClassId) (a : Nat → Nat) (g : Nat → Nat → Int32) (x y n q : Int32) (h1 : vp_in x 4) (h2 : vp_in y 2) : hl_KI D (hl_ty cI cZ cJ) l yX4_change wsX4_change ({ frames := 1, cells := 0, slots := 0, locals := 21 } : Room) 0 0 [.ref (a 1), .int x, .int y, .int n, .int q] (hl_WC a cI cZ g) (fun r w => r = g 0 (x * 2 + y).toNatClampNeg ∧ w = hl_WC a cI cZ (f_X4_change g x y n q)) := by
  refine hl_KI_of (cc := cX4_change) (maxL := 7) .int rfl (fun _ => Or.inr rfl) (by decide) rfl (Nat.le_of_ble_eq_true rfl) ?_
  intro p e s m args below meth c A Q h hend
  have hi4 : ∀ z ∈ wsX40, z ∈ wsX4_change := by decide +kernel
  have hrow : vp_in (x * 2 + y) 8 := hl_row h1 h2
  refine hl_ls (ls' := [(0, .ref (a 1)), (1, .int x), (2, .int y), (3, .int n), (4, .int q)]) rfl ?_
  refine hl_iload_n h 1 dX4_change_0 rfl ?_
  refine hl_iload_n h 2 dX4_change_1 rfl ?_
  refine hl_callSiD h (st := []) (c_X4_row l D cI cZ cJ a g x y) (va_cwS 2 h.2.2.2.2.1 gX4_change_X4_row rfl rfl rfl (by decide +kernel) ⟨Nat.le_of_ble_eq_true rfl, Nat.le_of_ble_eq_true rfl⟩) dX4_change_2 rfl (Nat.le_of_ble_eq_true rfl) ⟨Nat.le_of_ble_eq_true rfl, Nat.le_of_ble_eq_true rfl⟩ rfl ?_
  refine hl_istore h [(5, .int ((x * 2 + y))), (0, .ref (a 1)), (1, .int x), (2, .int y), (3, .int n), (4, .int q)] dX4_change_5 (by decide) rfl ?_
  refine hl_aload_n h 1 dX4_change_7 rfl ?_
  refine hl_get h hi4 hl_wc_1 rfl 0 rfl dX4_change_8 (by decide) (by decide +kernel) ?_
  refine hl_iload h 0 dX4_change_11 rfl ?_
  refine hl_ild h hl_wc_6 0 rfl dX4_change_13 (by with_reducible assumption) ?_
  refine hl_istore h [(6, .int (g 0 ((x * 2 + y)).toNatClampNeg)), (5, .int ((x * 2 + y))), (0, .ref (a 1)), (1, .int x), (2, .int y), (3, .int n), (4, .int q)] dX4_change_14 (by decide) rfl ?_
  refine hl_aload_n h 2 dX4_change_16 rfl ?_
  refine hl_get h hi4 hl_wc_1 rfl 0 rfl dX4_change_17 (by decide) (by decide +kernel) ?_
  refine hl_iload h 1 dX4_change_20 rfl ?_
  refine hl_iload_n h 5 dX4_change_22 rfl ?_
  refine hl_ist h hl_wc_6 0 rfl dX4_change_23 (by with_reducible assumption) hl_wc_t0 ?_
  refine hl_nmC (fun g4 e5 => ?_)
  refine hl_aload_n h 2 dX4_change_24 rfl ?_
  refine hl_get h hi4 hl_wc_1 rfl 1 rfl dX4_change_25 (by decide) (by decide +kernel) ?_
  refine hl_iload h 1 dX4_change_28 rfl ?_
  refine hl_iload h 6 dX4_change_30 rfl ?_
  refine hl_ist h hl_wc_7 0 rfl dX4_change_32 (by with_reducible assumption) hl_wc_t1 ?_
  refine hl_nmC (fun g6 e7 => ?_)
  refine hl_iload h 0 dX4_change_33 rfl ?_
  exact hend dX4_change_35 (fun h9 => nomatch h9) (by
    subst e7; subst e5
    exact ⟨by rfl, (congrArg (hl_WC a cI cZ) (by rfl))⟩)

set_option maxHeartbeats 4000000 in
set_option maxRecDepth 100000 in
theorem c_X4_addSleeper (l : Launch) (D : va_G) (cI cZ cJ : ClassId) (a : Nat → Nat) (g : Nat → Nat → Int32) (x y : Int32) (h1 : vp_in x 4) (h2 : vp_in y 2) : hl_KV D (hl_ty cI cZ cJ) l yX4_addSleeper wsX4_addSleeper ({ frames := 1, cells := 0, slots := 0, locals := 21 } : Room) 0 0 [.ref (a 1), .int x, .int y] (hl_WC a cI cZ g) (fun w => w = hl_WC a cI cZ (f_X4_addSleeper g x y)) := by
  refine hl_KV_of (cc := cX4_addSleeper) (maxL := 3) (by decide) rfl (Nat.le_of_ble_eq_true rfl) ?_
  intro p e s m args below meth c A Q h hnm hend
  have hi4 : ∀ z ∈ wsX40, z ∈ wsX4_addSleeper := by decide +kernel
  have hrow : vp_in (x * 2 + y) 8 := hl_row h1 h2
  refine hl_ls (ls' := [(0, .ref (a 1)), (1, .int x), (2, .int y)]) rfl ?_
  refine hl_aload_n h 0 dX4_addSleeper_0 rfl ?_
  refine hl_get h hi4 hl_wc_1 rfl 2 rfl dX4_addSleeper_1 (by decide) (by decide +kernel) ?_
  refine hl_iload_n h 1 dX4_addSleeper_4 rfl ?_
  refine hl_iload_n h 2 dX4_addSleeper_5 rfl ?_
  refine hl_callSiD h (st := [.ref (a 8)]) (c_X4_row l D cI cZ cJ a g x y) (va_cwS 2 h.2.2.2.2.1 gX4_addSleeper_X4_row rfl rfl rfl (by decide +kernel) ⟨Nat.le_of_ble_eq_true rfl, Nat.le_of_ble_eq_true rfl⟩) dX4_addSleeper_6 rfl (Nat.le_of_ble_eq_true rfl) ⟨Nat.le_of_ble_eq_true rfl, Nat.le_of_ble_eq_true rfl⟩ rfl ?_
  refine hl_dup2 h dX4_addSleeper_9 rfl rfl ?_
  refine hl_ild h hl_wc_8 0 rfl dX4_addSleeper_10 (by with_reducible assumption) ?_
  refine hl_iconst h 1 dX4_addSleeper_11 (by decide) ?_
  refine hl_iadd h dX4_addSleeper_12 ?_
  refine hl_ist h hl_wc_8 0 rfl dX4_addSleeper_13 (by with_reducible assumption) hl_wc_t2 ?_
  refine hl_nmC (fun g4 e5 => ?_)
  exact hend dX4_addSleeper_14 (by
    subst e5
    exact (congrArg (hl_WC a cI cZ) (by rfl)))

set_option maxHeartbeats 4000000 in
set_option maxRecDepth 100000 in
theorem c_X4_endNight (l : Launch) (D : va_G) (cI cZ cJ : ClassId) (a : Nat → Nat) (g : Nat → Nat → Int32) : hl_KV D (hl_ty cI cZ cJ) l yX4_endNight wsX4_endNight ({ frames := 0, cells := 0, slots := 0, locals := 0 } : Room) 0 0 [.ref (a 1)] (hl_WC a cI cZ g) (fun w => w = hl_WC a cI cZ (f_X4_endNight g)) := by
  refine hl_KV_of (cc := cX4_endNight) (maxL := 2) (by decide) rfl (Nat.le_of_ble_eq_true rfl) ?_
  intro p e s m args below meth c A Q h hnm hend
  have hi4 : ∀ z ∈ wsX40, z ∈ wsX4_endNight := by decide +kernel
  refine hl_ls (ls' := [(0, .ref (a 1))]) rfl ?_
  refine hl_iconst h 0 dX4_endNight_0 (by decide) ?_
  refine hl_istore_n h [(1, .int 0), (0, .ref (a 1))] dX4_endNight_1 (by decide) rfl ?_
  have lp2 : ∀ (n : Nat) (i : Nat) (z : Nat → Nat → Int32), i + n = 8 → hl_it (b_X4_endNight) i n z = f_X4_endNight g →  hl_X p l e ({ frames := 0, cells := 0, slots := 0, locals := 0 } : Room) s m args below meth c 2 D A 0 0 Q (hl_WC a cI cZ z) 2 [(0, .ref (a 1)), (1, .int (nI i))] [] := by
    intro n
    induction n with
    | zero =>
      intro i z hi hv
      refine hl_iload_n h 1 dX4_endNight_2 rfl ?_
      refine hl_bipush h 8 dX4_endNight_3 (by decide) ?_
      refine hl_icmp_ge_T h 21 dX4_endNight_5 (by decide) (by rw [show i = 8 by omega]; decide) ?_
      exact hend dX4_endNight_21 (by
        exact congrArg (hl_WC a cI cZ) hv)
    | succ n ih =>
      intro i z hi hv
      refine hl_iload_n h 1 dX4_endNight_2 rfl ?_
      refine hl_bipush h 8 dX4_endNight_3 (by decide) ?_
      refine hl_icmp_ge_F h 21 dX4_endNight_5 (by decide) (nI_ge (b := 8) (by omega) (by decide)) ?_
      refine hl_aload_n h 0 dX4_endNight_8 rfl ?_
      refine hl_get h hi4 hl_wc_1 rfl 2 rfl dX4_endNight_9 (by decide) (by decide +kernel) ?_
      refine hl_iload_n h 1 dX4_endNight_12 rfl ?_
      refine hl_iconst h 0 dX4_endNight_13 (by decide) ?_
      refine hl_istN h hl_wc_8 0 rfl i dX4_endNight_14 rfl (by omega) (by decide) hl_wc_t2 ?_
      refine hl_nmC (fun g1 e2 => ?_)
      refine hl_iinc h 1 (nI (i + 1)) [(1, .int (nI (i + 1))), (0, .ref (a 1))] dX4_endNight_15 rfl (hl_inc i) (by decide) rfl ?_
      refine hl_goto h 2 dX4_endNight_18 (by decide) ?_
      refine hl_lsub [1, 0] rfl ?_
      exact ih (i + 1) _ (by omega) (by rw [← hv, hl_it_s] <;> (congr 1 <;> (subst e2; first | rfl | (simp [b_X4_endNight]; done))))
  refine hl_lsub [1, 0] rfl ?_
  exact lp2 8 0 g rfl rfl

set_option maxHeartbeats 4000000 in
set_option maxRecDepth 100000 in
theorem c_X2_addClean (l : Launch) (D : va_G) (cI cZ cJ : ClassId) (a : Nat → Nat) (g : Nat → Nat → Int32) (x n : Int32) (h1 : vp_in x 4) : hl_KI D (hl_ty cI cZ cJ) l yX2_addClean wsX2_addClean ({ frames := 0, cells := 0, slots := 0, locals := 0 } : Room) 0 0 [.ref (a 2), .int x, .int n] (hl_WC a cI cZ g) (fun r w => r = f_X2_addClean g x n 3 (x).toNatClampNeg ∧ w = hl_WC a cI cZ (f_X2_addClean g x n)) := by
  refine hl_KI_of (cc := cX2_addClean) (maxL := 3) .int rfl (fun _ => Or.inr rfl) (by decide) rfl (Nat.le_of_ble_eq_true rfl) ?_
  intro p e s m args below meth c A Q h hend
  have hi2 : ∀ z ∈ wsX20, z ∈ wsX2_addClean := by decide +kernel
  refine hl_ls (ls' := [(0, .ref (a 2)), (1, .int x), (2, .int n)]) rfl ?_
  refine hl_aload_n h 0 dX2_addClean_0 rfl ?_
  refine hl_get h hi2 hl_wc_2 rfl 0 rfl dX2_addClean_1 (by decide) (by decide +kernel) ?_
  refine hl_iload_n h 1 dX2_addClean_4 rfl ?_
  refine hl_dup2 h dX2_addClean_5 rfl rfl ?_
  refine hl_ild h hl_wc_9 0 rfl dX2_addClean_6 (by with_reducible assumption) ?_
  refine hl_iload_n h 2 dX2_addClean_7 rfl ?_
  refine hl_iadd h dX2_addClean_8 ?_
  refine hl_ist h hl_wc_9 0 rfl dX2_addClean_9 (by with_reducible assumption) hl_wc_t3 ?_
  refine hl_nmC (fun g1 e2 => ?_)
  refine hl_aload_n h 0 dX2_addClean_10 rfl ?_
  refine hl_get h hi2 hl_wc_2 rfl 0 rfl dX2_addClean_11 (by decide) (by decide +kernel) ?_
  refine hl_iload_n h 1 dX2_addClean_14 rfl ?_
  refine hl_ild h hl_wc_9 0 rfl dX2_addClean_15 (by with_reducible assumption) ?_
  exact hend dX2_addClean_16 (fun h9 => nomatch h9) (by
    subst e2
    exact ⟨by rfl, (congrArg (hl_WC a cI cZ) (by rfl))⟩)

set_option maxHeartbeats 4000000 in
set_option maxRecDepth 100000 in
theorem c_X2_changeBroken (l : Launch) (D : va_G) (cI cZ cJ : ClassId) (a : Nat → Nat) (g : Nat → Nat → Int32) (x : Int32) (h1 : x = 0 ∨ x = 1) (h2 : g 8 0 = 0 ∨ g 8 0 = 1) : hl_KI D (hl_ty cI cZ cJ) l yX2_changeBroken wsX2_changeBroken ({ frames := 0, cells := 0, slots := 0, locals := 0 } : Room) 0 0 [.ref (a 2), .int x] (hl_WC a cI cZ g) (fun r w => r = g 8 0 ∧ w = hl_WC a cI cZ (hl_su g 8 (fun _ => x))) := by
  refine hl_KI_of (cc := cX2_changeBroken) (maxL := 3) .boolean rfl (fun _ => Or.inl rfl) (by decide) rfl (Nat.le_of_ble_eq_true rfl) ?_
  intro p e s m args below meth c A Q h hend
  have hi2 : ∀ z ∈ wsX20, z ∈ wsX2_changeBroken := by decide +kernel
  refine hl_ls (ls' := [(0, .ref (a 2)), (1, .int x)]) rfl ?_
  refine hl_aload_n h 0 dX2_changeBroken_0 rfl ?_
  refine hl_get h hi2 hl_wc_2 rfl 5 rfl dX2_changeBroken_1 (by decide) (by decide +kernel) ?_
  refine hl_istore_n h [(2, .int (g 8 0)), (0, .ref (a 2)), (1, .int x)] dX2_changeBroken_4 (by decide) rfl ?_
  refine hl_aload_n h 1 dX2_changeBroken_5 rfl ?_
  refine hl_iload_n h 2 dX2_changeBroken_6 rfl ?_
  refine hl_put h hi2 tyX2_ok nmX2 hl_wc_2 rfl 5 dX2_changeBroken_7 (by decide) (by decide +kernel) (by decide) (by rcases h1 with rfl | rfl <;> rfl) (by rcases h1 with rfl | rfl <;> rfl) (Nat.le_of_ble_eq_true rfl) hl_wc_s8 ?_
  refine hl_nmC (fun g1 e2 => ?_)
  refine hl_iload_n h 0 dX2_changeBroken_10 rfl ?_
  exact hend dX2_changeBroken_11 (fun _ => h2) (by
    subst e2
    exact ⟨by rfl, (congrArg (hl_WC a cI cZ) (by rfl))⟩)

set_option maxHeartbeats 4000000 in
set_option maxRecDepth 100000 in
theorem c_X2_awayOf (l : Launch) (D : va_G) (cI cZ cJ : ClassId) (a : Nat → Nat) (g : Nat → Nat → Int32) (x : Int32) (h1 : vp_in x 4) : hl_KI D (hl_ty cI cZ cJ) l yX2_awayOf wsX2_awayOf ({ frames := 0, cells := 0, slots := 0, locals := 0 } : Room) 0 0 [.ref (a 2), .int x] (hl_WC a cI cZ g) (fun r w => r = r_X2_awayOf g x ∧ w = hl_WC a cI cZ g) := by
  refine hl_KI_of (cc := cX2_awayOf) (maxL := 2) .int rfl (fun _ => Or.inr rfl) (by decide) rfl (Nat.le_of_ble_eq_true rfl) ?_
  intro p e s m args below meth c A Q h hend
  have hi2 : ∀ z ∈ wsX20, z ∈ wsX2_awayOf := by decide +kernel
  refine hl_ls (ls' := [(0, .ref (a 2)), (1, .int x)]) rfl ?_
  refine hl_aload_n h 0 dX2_awayOf_0 rfl ?_
  refine hl_get h hi2 hl_wc_2 rfl 1 rfl dX2_awayOf_1 (by decide) (by decide +kernel) ?_
  refine hl_iload_n h 1 dX2_awayOf_4 rfl ?_
  refine hl_ild h hl_wc_10 0 rfl dX2_awayOf_5 (by with_reducible assumption) ?_
  refine hl_aload_n h 0 dX2_awayOf_6 rfl ?_
  refine hl_get h hi2 hl_wc_2 rfl 2 rfl dX2_awayOf_7 (by decide) (by decide +kernel) ?_
  refine hl_iload_n h 1 dX2_awayOf_10 rfl ?_
  refine hl_ild h hl_wc_11 0 rfl dX2_awayOf_11 (by with_reducible assumption) ?_
  refine hl_iadd h dX2_awayOf_12 ?_
  refine hl_aload_n h 0 dX2_awayOf_13 rfl ?_
  refine hl_get h hi2 hl_wc_2 rfl 3 rfl dX2_awayOf_14 (by decide) (by decide +kernel) ?_
  refine hl_iload_n h 1 dX2_awayOf_17 rfl ?_
  refine hl_ild h hl_wc_12 0 rfl dX2_awayOf_18 (by with_reducible assumption) ?_
  refine hl_iadd h dX2_awayOf_19 ?_
  refine hl_aload_n h 0 dX2_awayOf_20 rfl ?_
  refine hl_get h hi2 hl_wc_2 rfl 4 rfl dX2_awayOf_21 (by decide) (by decide +kernel) ?_
  refine hl_iload_n h 1 dX2_awayOf_24 rfl ?_
  refine hl_ild h hl_wc_13 0 rfl dX2_awayOf_25 (by with_reducible assumption) ?_
  refine hl_iadd h dX2_awayOf_26 ?_
  exact hend dX2_awayOf_27 (fun h9 => nomatch h9) (by
    exact ⟨by rfl, (congrArg (hl_WC a cI cZ) (by rfl))⟩)

set_option maxHeartbeats 4000000 in
set_option maxRecDepth 100000 in
theorem c_X2_giverFor (l : Launch) (D : va_G) (cI cZ cJ : ClassId) (a : Nat → Nat) (g : Nat → Nat → Int32) (x : Int32) (h1 : vp_in x 4) : hl_KI D (hl_ty cI cZ cJ) l yX2_giverFor wsX2_giverFor ({ frames := 0, cells := 0, slots := 0, locals := 0 } : Room) 0 0 [.ref (a 2), .int x] (hl_WC a cI cZ g) (fun r w => r = r_X2_giverFor g x ∧ w = hl_WC a cI cZ g) := by
  refine hl_KI_of (cc := cX2_giverFor) (maxL := 5) .int rfl (fun _ => Or.inr rfl) (by decide) rfl (Nat.le_of_ble_eq_true rfl) ?_
  intro p e s m args below meth c A Q h hend
  have hi2 : ∀ z ∈ wsX20, z ∈ wsX2_giverFor := by decide +kernel
  refine hl_ls (ls' := [(0, .ref (a 2)), (1, .int x)]) rfl ?_
  refine hl_aload_n h 0 dX2_giverFor_0 rfl ?_
  refine hl_get h hi2 hl_wc_2 rfl 0 rfl dX2_giverFor_1 (by decide) (by decide +kernel) ?_
  refine hl_iload_n h 1 dX2_giverFor_4 rfl ?_
  refine hl_ild h hl_wc_9 0 rfl dX2_giverFor_5 (by with_reducible assumption) ?_
  refine hl_if_le h 11 dX2_giverFor_6 (by decide) (fun c1 => ?_) (fun c1 => ?_)
  · refine hl_iconst h (-1) dX2_giverFor_11 (by decide) ?_
    refine hl_istore_n h [(2, .int (-1)), (0, .ref (a 2)), (1, .int x)] dX2_giverFor_12 (by decide) rfl ?_
    refine hl_iconst h 0 dX2_giverFor_13 (by decide) ?_
    refine hl_istore_n h [(3, .int 0), (2, .int (-1)), (0, .ref (a 2)), (1, .int x)] dX2_giverFor_14 (by decide) rfl ?_
    refine hl_iconst h 0 dX2_giverFor_15 (by decide) ?_
    refine hl_istore h [(4, .int 0), (3, .int 0), (2, .int (-1)), (0, .ref (a 2)), (1, .int x)] dX2_giverFor_16 (by decide) rfl ?_
    have lp18 : ∀ (n : Nat) (i : Nat) (u : Int32 × Int32), i + n = 4 → (hl_it (b_X2_giverFor g) i n u).1 = r_X2_giverFor g x →  hl_X p l e ({ frames := 0, cells := 0, slots := 0, locals := 0 } : Room) s m args below meth c 5 D A 0 0 Q (hl_WC a cI cZ g) 18 [(0, .ref (a 2)), (1, .int x), (2, .int u.1), (3, .int u.2), (4, .int (nI i))] [] := by
      intro n
      induction n with
      | zero =>
        intro i u hi hv
        refine hl_iload h 4 dX2_giverFor_18 rfl ?_
        refine hl_iconst h 4 dX2_giverFor_20 (by decide) ?_
        refine hl_icmp_ge_T h 52 dX2_giverFor_21 (by decide) (by rw [show i = 4 by omega]; decide) ?_
        refine hl_iload_n h 2 dX2_giverFor_52 rfl ?_
        exact hend dX2_giverFor_53 (fun h9 => nomatch h9) (by
          exact ⟨by first | exact hv | (simp [r_X2_giverFor, c1]), rfl⟩)
      | succ n ih =>
        intro i u hi hv
        refine hl_iload h 4 dX2_giverFor_18 rfl ?_
        refine hl_iconst h 4 dX2_giverFor_20 (by decide) ?_
        refine hl_icmp_ge_F h 52 dX2_giverFor_21 (by decide) (nI_ge (b := 4) (by omega) (by decide)) ?_
        refine hl_aload_n h 0 dX2_giverFor_24 rfl ?_
        refine hl_get h hi2 hl_wc_2 rfl 0 rfl dX2_giverFor_25 (by decide) (by decide +kernel) ?_
        refine hl_iload h 4 dX2_giverFor_28 rfl ?_
        refine hl_ildN h hl_wc_9 0 rfl i dX2_giverFor_30 rfl (by omega) (by decide) ?_
        refine hl_iload_n h 3 dX2_giverFor_31 rfl ?_
        refine hl_icmp_le h 46 dX2_giverFor_32 (by decide) (fun c2 => ?_) (fun c2 => ?_)
        · refine hl_iinc h 4 (nI (i + 1)) [(4, .int (nI (i + 1))), (0, .ref (a 2)), (1, .int x), (2, .int u.1), (3, .int u.2)] dX2_giverFor_46 rfl (hl_inc i) (by decide) rfl ?_
          refine hl_goto h 18 dX2_giverFor_49 (by decide) ?_
          refine hl_lsub [1, 2, 3, 4, 0] rfl ?_
          exact ih (i + 1) (u.1, u.2) (by omega) (by rw [← hv, hl_it_s] <;> (congr 1 <;> (first | (simp [b_X2_giverFor, c2]; done) | (symm; simp [b_X2_giverFor, c2]))))
        · refine hl_iload h 4 dX2_giverFor_35 rfl ?_
          refine hl_istore_n h [(2, .int (nI i)), (0, .ref (a 2)), (1, .int x), (3, .int u.2), (4, .int (nI i))] dX2_giverFor_37 (by decide) rfl ?_
          refine hl_aload_n h 1 dX2_giverFor_38 rfl ?_
          refine hl_get h hi2 hl_wc_2 rfl 0 rfl dX2_giverFor_39 (by decide) (by decide +kernel) ?_
          refine hl_iload h 4 dX2_giverFor_42 rfl ?_
          refine hl_ildN h hl_wc_9 0 rfl i dX2_giverFor_44 rfl (by omega) (by decide) ?_
          refine hl_istore_n h [(3, .int (g 3 i)), (2, .int (nI i)), (0, .ref (a 2)), (1, .int x), (4, .int (nI i))] dX2_giverFor_45 (by decide) rfl ?_
          refine hl_iinc h 4 (nI (i + 1)) [(4, .int (nI (i + 1))), (3, .int (g 3 i)), (2, .int (nI i)), (0, .ref (a 2)), (1, .int x)] dX2_giverFor_46 rfl (hl_inc i) (by decide) rfl ?_
          refine hl_goto h 18 dX2_giverFor_49 (by decide) ?_
          refine hl_lsub [3, 4, 2, 1, 0] rfl ?_
          exact ih (i + 1) ((nI i), (g 3 i)) (by omega) (by rw [← hv, hl_it_s] <;> (congr 1 <;> (first | (simp [b_X2_giverFor, c2]; done) | (symm; simp [b_X2_giverFor, c2]))))
    refine hl_lsub [3, 4, 2, 1, 0] rfl ?_
    exact lp18 4 0 (-1, 0) rfl (by simp [r_X2_giverFor, c1])
  · refine hl_iload_n h 1 dX2_giverFor_9 rfl ?_
    exact hend dX2_giverFor_10 (fun h9 => nomatch h9) (by
      exact ⟨by first | exact hv | (simp [r_X2_giverFor, c1]), rfl⟩)

set_option maxHeartbeats 4000000 in
set_option maxRecDepth 100000 in
theorem c_X2_chargeForBorrowing (l : Launch) (D : va_G) (cI cZ cJ : ClassId) (a : Nat → Nat) (g : Nat → Nat → Int32) : hl_KI D (hl_ty cI cZ cJ) l yX2_chargeForBorrowing wsX2_chargeForBorrowing ({ frames := 0, cells := 0, slots := 0, locals := 0 } : Room) 0 0 [.ref (a 2)] (hl_WC a cI cZ g) (fun r w => r = 1 + g 9 0 ∧ w = hl_WC a cI cZ g) := by
  refine hl_KI_of (cc := cX2_chargeForBorrowing) (maxL := 1) .int rfl (fun _ => Or.inr rfl) (by decide) rfl (Nat.le_of_ble_eq_true rfl) ?_
  intro p e s m args below meth c A Q h hend
  have hi2 : ∀ z ∈ wsX20, z ∈ wsX2_chargeForBorrowing := by decide +kernel
  refine hl_ls (ls' := [(0, .ref (a 2))]) rfl ?_
  refine hl_iconst h 1 dX2_chargeForBorrowing_0 (by decide) ?_
  refine hl_aload_n h 0 dX2_chargeForBorrowing_1 rfl ?_
  refine hl_get h hi2 hl_wc_2 rfl 6 rfl dX2_chargeForBorrowing_2 (by decide) (by decide +kernel) ?_
  refine hl_iadd h dX2_chargeForBorrowing_5 ?_
  exact hend dX2_chargeForBorrowing_6 (fun h9 => nomatch h9) (by
    exact ⟨by rfl, (congrArg (hl_WC a cI cZ) (by rfl))⟩)

set_option maxHeartbeats 4000000 in
set_option maxRecDepth 100000 in
theorem c_X2_take (l : Launch) (D : va_G) (cI cZ cJ : ClassId) (a : Nat → Nat) (g : Nat → Nat → Int32) (x y : Int32) (h1 : vp_in x 4) (h2 : vp_in y 4) : hl_KV D (hl_ty cI cZ cJ) l yX2_take wsX2_take ({ frames := 0, cells := 0, slots := 0, locals := 0 } : Room) 0 0 [.ref (a 2), .int x, .int y] (hl_WC a cI cZ g) (fun w => w = hl_WC a cI cZ (f_X2_take g x y)) := by
  refine hl_KV_of (cc := cX2_take) (maxL := 3) (by decide) rfl (Nat.le_of_ble_eq_true rfl) ?_
  intro p e s m args below meth c A Q h hnm hend
  have hi2 : ∀ z ∈ wsX20, z ∈ wsX2_take := by decide +kernel
  refine hl_ls (ls' := [(0, .ref (a 2)), (1, .int x), (2, .int y)]) rfl ?_
  refine hl_aload_n h 0 dX2_take_0 rfl ?_
  refine hl_get h hi2 hl_wc_2 rfl 0 rfl dX2_take_1 (by decide) (by decide +kernel) ?_
  refine hl_iload_n h 2 dX2_take_4 rfl ?_
  refine hl_dup2 h dX2_take_5 rfl rfl ?_
  refine hl_ild h hl_wc_9 0 rfl dX2_take_6 (by with_reducible assumption) ?_
  refine hl_iconst h 1 dX2_take_7 (by decide) ?_
  refine hl_isub h dX2_take_8 ?_
  refine hl_ist h hl_wc_9 0 rfl dX2_take_9 (by with_reducible assumption) hl_wc_t3 ?_
  refine hl_nmC (fun g1 e2 => ?_)
  refine hl_aload_n h 0 dX2_take_10 rfl ?_
  refine hl_get h hi2 hl_wc_2 rfl 1 rfl dX2_take_11 (by decide) (by decide +kernel) ?_
  refine hl_iload_n h 1 dX2_take_14 rfl ?_
  refine hl_dup2 h dX2_take_15 rfl rfl ?_
  refine hl_ild h hl_wc_10 0 rfl dX2_take_16 (by with_reducible assumption) ?_
  refine hl_iconst h 1 dX2_take_17 (by decide) ?_
  refine hl_iadd h dX2_take_18 ?_
  refine hl_ist h hl_wc_10 0 rfl dX2_take_19 (by with_reducible assumption) hl_wc_t4 ?_
  refine hl_nmC (fun g3 e4 => ?_)
  refine hl_iload_n h 2 dX2_take_20 rfl ?_
  refine hl_iload_n h 1 dX2_take_21 rfl ?_
  refine hl_icmp_eq h 35 dX2_take_22 (by decide) (fun c5 => ?_) (fun c5 => ?_)
  · exact hend dX2_take_35 (by
      subst e4; subst e2
      exact (congrArg (hl_WC a cI cZ) (by first | rfl | (simp [f_X2_take, c5]; done) | (simp [f_X2_take, c5]))))
  · refine hl_aload_n h 0 dX2_take_25 rfl ?_
    refine hl_dup h dX2_take_26 rfl ?_
    refine hl_get h hi2 hl_wc_2 rfl 6 rfl dX2_take_27 (by decide) (by decide +kernel) ?_
    refine hl_iconst h 1 dX2_take_30 (by decide) ?_
    refine hl_iadd h dX2_take_31 ?_
    refine hl_put h hi2 tyX2_ok nmX2 hl_wc_2 rfl 6 dX2_take_32 (by decide) (by decide +kernel) (by decide) rfl rfl (Nat.le_of_ble_eq_true rfl) hl_wc_s9 ?_
    refine hl_nmC (fun g6 e7 => ?_)
    exact hend dX2_take_35 (by
      subst e7; subst e4; subst e2
      exact (congrArg (hl_WC a cI cZ) (by first | rfl | (simp [f_X2_take, c5]; done) | (simp [f_X2_take, c5]))))

set_option maxHeartbeats 4000000 in
set_option maxRecDepth 100000 in
theorem c_X2_endNight (l : Launch) (D : va_G) (cI cZ cJ : ClassId) (a : Nat → Nat) (g : Nat → Nat → Int32) : hl_KV D (hl_ty cI cZ cJ) l yX2_endNight wsX2_endNight ({ frames := 0, cells := 0, slots := 0, locals := 0 } : Room) 0 0 [.ref (a 2)] (hl_WC a cI cZ g) (fun w => w = hl_WC a cI cZ (f_X2_endNight g)) := by
  refine hl_KV_of (cc := cX2_endNight) (maxL := 2) (by decide) rfl (Nat.le_of_ble_eq_true rfl) ?_
  intro p e s m args below meth c A Q h hnm hend
  have hi2 : ∀ z ∈ wsX20, z ∈ wsX2_endNight := by decide +kernel
  refine hl_ls (ls' := [(0, .ref (a 2))]) rfl ?_
  refine hl_iconst h 0 dX2_endNight_0 (by decide) ?_
  refine hl_istore_n h [(1, .int 0), (0, .ref (a 2))] dX2_endNight_1 (by decide) rfl ?_
  have lp2 : ∀ (n : Nat) (i : Nat) (z : Nat → Nat → Int32), i + n = 4 → hl_it (b_X2_endNight) i n z = hl_it b_X2_endNight 0 4 g →  hl_X p l e ({ frames := 0, cells := 0, slots := 0, locals := 0 } : Room) s m args below meth c 2 D A 0 0 Q (hl_WC a cI cZ z) 2 [(0, .ref (a 2)), (1, .int (nI i))] [] := by
    intro n
    induction n with
    | zero =>
      intro i z hi hv
      refine hl_iload_n h 1 dX2_endNight_2 rfl ?_
      refine hl_iconst h 4 dX2_endNight_3 (by decide) ?_
      refine hl_icmp_ge_T h 88 dX2_endNight_4 (by decide) (by rw [show i = 4 by omega]; decide) ?_
      refine hl_aload_n h 0 dX2_endNight_88 rfl ?_
      refine hl_iconst h 0 dX2_endNight_89 (by decide) ?_
      refine hl_put h hi2 tyX2_ok nmX2 hl_wc_2 rfl 6 dX2_endNight_90 (by decide) (by decide +kernel) (by decide) rfl rfl (Nat.le_of_ble_eq_true rfl) hl_wc_s9 ?_
      refine hl_nmC (fun g1 e2 => ?_)
      exact hend dX2_endNight_93 (by
        subst e2; exact congrArg (fun q => hl_WC a cI cZ (hl_su q 9 (fun _ => 0))) hv)
    | succ n ih =>
      intro i z hi hv
      refine hl_iload_n h 1 dX2_endNight_2 rfl ?_
      refine hl_iconst h 4 dX2_endNight_3 (by decide) ?_
      refine hl_icmp_ge_F h 88 dX2_endNight_4 (by decide) (nI_ge (b := 4) (by omega) (by decide)) ?_
      refine hl_aload_n h 0 dX2_endNight_7 rfl ?_
      refine hl_get h hi2 hl_wc_2 rfl 4 rfl dX2_endNight_8 (by decide) (by decide +kernel) ?_
      refine hl_iload_n h 1 dX2_endNight_11 rfl ?_
      refine hl_dup2 h dX2_endNight_12 rfl rfl ?_
      refine hl_ildN h hl_wc_13 0 rfl i dX2_endNight_13 rfl (by omega) (by decide) ?_
      refine hl_aload_n h 0 dX2_endNight_14 rfl ?_
      refine hl_get h hi2 hl_wc_2 rfl 3 rfl dX2_endNight_15 (by decide) (by decide +kernel) ?_
      refine hl_iload_n h 1 dX2_endNight_18 rfl ?_
      refine hl_ildN h hl_wc_12 0 rfl i dX2_endNight_19 rfl (by omega) (by decide) ?_
      refine hl_iadd h dX2_endNight_20 ?_
      refine hl_istN h hl_wc_13 0 rfl i dX2_endNight_21 rfl (by omega) (by decide) hl_wc_t7 ?_
      refine hl_nmC (fun g3 e4 => ?_)
      refine hl_aload_n h 0 dX2_endNight_22 rfl ?_
      refine hl_get h hi2 hl_wc_2 rfl 3 rfl dX2_endNight_23 (by decide) (by decide +kernel) ?_
      refine hl_iload_n h 1 dX2_endNight_26 rfl ?_
      refine hl_aload_n h 0 dX2_endNight_27 rfl ?_
      refine hl_get h hi2 hl_wc_2 rfl 2 rfl dX2_endNight_28 (by decide) (by decide +kernel) ?_
      refine hl_iload_n h 1 dX2_endNight_31 rfl ?_
      refine hl_ildN h hl_wc_11 0 rfl i dX2_endNight_32 rfl (by omega) (by decide) ?_
      refine hl_istN h hl_wc_12 0 rfl i dX2_endNight_33 rfl (by omega) (by decide) hl_wc_t6 ?_
      refine hl_nmC (fun g5 e6 => ?_)
      refine hl_aload_n h 0 dX2_endNight_34 rfl ?_
      refine hl_get h hi2 hl_wc_2 rfl 2 rfl dX2_endNight_35 (by decide) (by decide +kernel) ?_
      refine hl_iload_n h 1 dX2_endNight_38 rfl ?_
      refine hl_aload_n h 0 dX2_endNight_39 rfl ?_
      refine hl_get h hi2 hl_wc_2 rfl 1 rfl dX2_endNight_40 (by decide) (by decide +kernel) ?_
      refine hl_iload_n h 1 dX2_endNight_43 rfl ?_
      refine hl_ildN h hl_wc_10 0 rfl i dX2_endNight_44 rfl (by omega) (by decide) ?_
      refine hl_istN h hl_wc_11 0 rfl i dX2_endNight_45 rfl (by omega) (by decide) hl_wc_t5 ?_
      refine hl_nmC (fun g7 e8 => ?_)
      refine hl_aload_n h 0 dX2_endNight_46 rfl ?_
      refine hl_get h hi2 hl_wc_2 rfl 1 rfl dX2_endNight_47 (by decide) (by decide +kernel) ?_
      refine hl_iload_n h 1 dX2_endNight_50 rfl ?_
      refine hl_iconst h 0 dX2_endNight_51 (by decide) ?_
      refine hl_istN h hl_wc_10 0 rfl i dX2_endNight_52 rfl (by omega) (by decide) hl_wc_t4 ?_
      refine hl_nmC (fun g9 e10 => ?_)
      refine hl_aload_n h 0 dX2_endNight_53 rfl ?_
      refine hl_get h hi2 hl_wc_2 rfl 5 rfl dX2_endNight_54 (by decide) (by decide +kernel) ?_
      refine hl_if_ne h 82 dX2_endNight_57 (by decide) (fun c11 => ?_) (fun c11 => ?_)
      · refine hl_iinc h 1 (nI (i + 1)) [(1, .int (nI (i + 1))), (0, .ref (a 2))] dX2_endNight_82 rfl (hl_inc i) (by decide) rfl ?_
        refine hl_goto h 2 dX2_endNight_85 (by decide) ?_
        refine hl_lsub [1, 0] rfl ?_
        exact ih (i + 1) _ (by omega) (by rw [← hv, hl_it_s] <;> (congr 1 <;> (subst e10; subst e8; subst e6; subst e4; first | rfl | (simp [b_X2_endNight, c11]; done))))
      · refine hl_aload_n h 0 dX2_endNight_60 rfl ?_
        refine hl_get h hi2 hl_wc_2 rfl 0 rfl dX2_endNight_61 (by decide) (by decide +kernel) ?_
        refine hl_iload_n h 1 dX2_endNight_64 rfl ?_
        refine hl_dup2 h dX2_endNight_65 rfl rfl ?_
        refine hl_ildN h hl_wc_9 0 rfl i dX2_endNight_66 rfl (by omega) (by decide) ?_
        refine hl_aload_n h 0 dX2_endNight_67 rfl ?_
        refine hl_get h hi2 hl_wc_2 rfl 4 rfl dX2_endNight_68 (by decide) (by decide +kernel) ?_
        refine hl_iload_n h 1 dX2_endNight_71 rfl ?_
        refine hl_ildN h hl_wc_13 0 rfl i dX2_endNight_72 rfl (by omega) (by decide) ?_
        refine hl_iadd h dX2_endNight_73 ?_
        refine hl_istN h hl_wc_9 0 rfl i dX2_endNight_74 rfl (by omega) (by decide) hl_wc_t3 ?_
        refine hl_nmC (fun g12 e13 => ?_)
        refine hl_aload_n h 0 dX2_endNight_75 rfl ?_
        refine hl_get h hi2 hl_wc_2 rfl 4 rfl dX2_endNight_76 (by decide) (by decide +kernel) ?_
        refine hl_iload_n h 1 dX2_endNight_79 rfl ?_
        refine hl_iconst h 0 dX2_endNight_80 (by decide) ?_
        refine hl_istN h hl_wc_13 0 rfl i dX2_endNight_81 rfl (by omega) (by decide) hl_wc_t7 ?_
        refine hl_nmC (fun g14 e15 => ?_)
        refine hl_iinc h 1 (nI (i + 1)) [(1, .int (nI (i + 1))), (0, .ref (a 2))] dX2_endNight_82 rfl (hl_inc i) (by decide) rfl ?_
        refine hl_goto h 2 dX2_endNight_85 (by decide) ?_
        refine hl_lsub [1, 0] rfl ?_
        exact ih (i + 1) _ (by omega) (by rw [← hv, hl_it_s] <;> (congr 1 <;> (subst e15; subst e13; subst e10; subst e8; subst e6; subst e4; first | rfl | (simp [b_X2_endNight, c11]; done))))
  refine hl_lsub [1, 0] rfl ?_
  exact lp2 4 0 g rfl rfl

set_option maxHeartbeats 4000000 in
set_option maxRecDepth 100000 in
theorem c_X0_isFull (l : Launch) (D : va_G) (cI cZ cJ : ClassId) (a : Nat → Nat) (g : Nat → Nat → Int32) : hl_KI D (hl_ty cI cZ cJ) l yX0_isFull wsX0_isFull ({ frames := 0, cells := 0, slots := 0, locals := 0 } : Room) 0 0 [.ref (a 3)] (hl_WC a cI cZ g) (fun r w => r = (if g 16 0 < 80 then 0 else 1) ∧ w = hl_WC a cI cZ g) := by
  refine hl_KI_of (cc := cX0_isFull) (maxL := 1) .boolean rfl (fun _ => Or.inl rfl) (by decide) rfl (Nat.le_of_ble_eq_true rfl) ?_
  intro p e s m args below meth c A Q h hend
  have hi0 : ∀ z ∈ wsX00, z ∈ wsX0_isFull := by decide +kernel
  refine hl_ls (ls' := [(0, .ref (a 3))]) rfl ?_
  refine hl_aload_n h 0 dX0_isFull_0 rfl ?_
  refine hl_get h hi0 hl_wc_3 rfl 6 rfl dX0_isFull_1 (by decide) (by decide +kernel) ?_
  refine hl_bipush h 80 dX0_isFull_4 (by decide) ?_
  refine hl_icmp_lt h 13 dX0_isFull_6 (by decide) (fun c1 => ?_) (fun c1 => ?_)
  · refine hl_iconst h 0 dX0_isFull_13 (by decide) ?_
    exact hend dX0_isFull_14 (fun _ => by decide) (by
      exact ⟨by first | rfl | (simp [c1]; done) | (simp [c1]), (congrArg (hl_WC a cI cZ) (by first | rfl | (simp [c1]; done) | (simp [c1])))⟩)
  · refine hl_iconst h 1 dX0_isFull_9 (by decide) ?_
    refine hl_goto h 14 dX0_isFull_10 (by decide) ?_
    exact hend dX0_isFull_14 (fun _ => by decide) (by
      exact ⟨by first | rfl | (simp [c1]; done) | (simp [c1]), (congrArg (hl_WC a cI cZ) (by first | rfl | (simp [c1]; done) | (simp [c1])))⟩)

set_option maxHeartbeats 4000000 in
set_option maxRecDepth 100000 in
theorem c_X0_add (l : Launch) (D : va_G) (cI cZ cJ : ClassId) (a : Nat → Nat) (g : Nat → Nat → Int32) (x y z v : Int32) (h1 : vp_in (g 16 0) 80) : hl_KI D (hl_ty cI cZ cJ) l yX0_add wsX0_add ({ frames := 0, cells := 0, slots := 0, locals := 0 } : Room) 0 0 [.ref (a 3), .int x, .int y, .int z, .int v] (hl_WC a cI cZ g) (fun r w => r = g 16 0 ∧ w = hl_WC a cI cZ (f_X0_add g x y z v)) := by
  refine hl_KI_of (cc := cX0_add) (maxL := 6) .int rfl (fun _ => Or.inr rfl) (by decide) rfl (Nat.le_of_ble_eq_true rfl) ?_
  intro p e s m args below meth c A Q h hend
  have hi0 : ∀ z ∈ wsX00, z ∈ wsX0_add := by decide +kernel
  refine hl_ls (ls' := [(0, .ref (a 3)), (1, .int x), (2, .int y), (3, .int z), (4, .int v)]) rfl ?_
  refine hl_aload_n h 0 dX0_add_0 rfl ?_
  refine hl_get h hi0 hl_wc_3 rfl 6 rfl dX0_add_1 (by decide) (by decide +kernel) ?_
  refine hl_istore h [(5, .int (g 16 0)), (0, .ref (a 3)), (1, .int x), (2, .int y), (3, .int z), (4, .int v)] dX0_add_4 (by decide) rfl ?_
  refine hl_aload_n h 1 dX0_add_6 rfl ?_
  refine hl_get h hi0 hl_wc_3 rfl 0 rfl dX0_add_7 (by decide) (by decide +kernel) ?_
  refine hl_iload h 0 dX0_add_10 rfl ?_
  refine hl_iload_n h 2 dX0_add_12 rfl ?_
  refine hl_ist h hl_wc_14 0 rfl dX0_add_13 (by with_reducible assumption) hl_wc_t10 ?_
  refine hl_nmC (fun g1 e2 => ?_)
  refine hl_aload_n h 1 dX0_add_14 rfl ?_
  refine hl_get h hi0 hl_wc_3 rfl 1 rfl dX0_add_15 (by decide) (by decide +kernel) ?_
  refine hl_iload h 0 dX0_add_18 rfl ?_
  refine hl_iload_n h 3 dX0_add_20 rfl ?_
  refine hl_ist h hl_wc_15 0 rfl dX0_add_21 (by with_reducible assumption) hl_wc_t11 ?_
  refine hl_nmC (fun g3 e4 => ?_)
  refine hl_aload_n h 1 dX0_add_22 rfl ?_
  refine hl_get h hi0 hl_wc_3 rfl 2 rfl dX0_add_23 (by decide) (by decide +kernel) ?_
  refine hl_iload h 0 dX0_add_26 rfl ?_
  refine hl_iload_n h 4 dX0_add_28 rfl ?_
  refine hl_ist h hl_wc_16 0 rfl dX0_add_29 (by with_reducible assumption) hl_wc_t12 ?_
  refine hl_nmC (fun g5 e6 => ?_)
  refine hl_aload_n h 1 dX0_add_30 rfl ?_
  refine hl_get h hi0 hl_wc_3 rfl 3 rfl dX0_add_31 (by decide) (by decide +kernel) ?_
  refine hl_iload h 0 dX0_add_34 rfl ?_
  refine hl_iload h 5 dX0_add_36 rfl ?_
  refine hl_ist h hl_wc_17 0 rfl dX0_add_38 (by with_reducible assumption) hl_wc_t13 ?_
  refine hl_nmC (fun g7 e8 => ?_)
  refine hl_aload_n h 1 dX0_add_39 rfl ?_
  refine hl_get h hi0 hl_wc_3 rfl 5 rfl dX0_add_40 (by decide) (by decide +kernel) ?_
  refine hl_iload h 0 dX0_add_43 rfl ?_
  refine hl_iconst h (-1) dX0_add_45 (by decide) ?_
  refine hl_ist h hl_wc_19 0 rfl dX0_add_46 (by with_reducible assumption) hl_wc_t15 ?_
  refine hl_nmC (fun g9 e10 => ?_)
  refine hl_aload_n h 1 dX0_add_47 rfl ?_
  refine hl_dup h dX0_add_48 rfl ?_
  refine hl_get h hi0 hl_wc_3 rfl 6 rfl dX0_add_49 (by decide) (by decide +kernel) ?_
  refine hl_iconst h 1 dX0_add_52 (by decide) ?_
  refine hl_iadd h dX0_add_53 ?_
  refine hl_put h hi0 tyX0_ok nmX0 hl_wc_3 rfl 6 dX0_add_54 (by decide) (by decide +kernel) (by decide) rfl rfl (Nat.le_of_ble_eq_true rfl) hl_wc_s16 ?_
  refine hl_nmC (fun g11 e12 => ?_)
  refine hl_iload h 0 dX0_add_57 rfl ?_
  exact hend dX0_add_59 (fun h9 => nomatch h9) (by
    subst e12; subst e10; subst e8; subst e6; subst e4; subst e2
    exact ⟨by rfl, (congrArg (hl_WC a cI cZ) (by rfl))⟩)

set_option maxHeartbeats 4000000 in
set_option maxRecDepth 100000 in
theorem c_X0_arrive (l : Launch) (D : va_G) (cI cZ cJ : ClassId) (a : Nat → Nat) (g : Nat → Nat → Int32) (x y : Int32) (h1 : vp_in x 80) : hl_KV D (hl_ty cI cZ cJ) l yX0_arrive wsX0_arrive ({ frames := 0, cells := 0, slots := 0, locals := 0 } : Room) 0 0 [.ref (a 3), .int x, .int y] (hl_WC a cI cZ g) (fun w => w = hl_WC a cI cZ (f_X0_arrive g x y)) := by
  refine hl_KV_of (cc := cX0_arrive) (maxL := 3) (by decide) rfl (Nat.le_of_ble_eq_true rfl) ?_
  intro p e s m args below meth c A Q h hnm hend
  have hi0 : ∀ z ∈ wsX00, z ∈ wsX0_arrive := by decide +kernel
  refine hl_ls (ls' := [(0, .ref (a 3)), (1, .int x), (2, .int y)]) rfl ?_
  refine hl_aload_n h 0 dX0_arrive_0 rfl ?_
  refine hl_get h hi0 hl_wc_3 rfl 4 rfl dX0_arrive_1 (by decide) (by decide +kernel) ?_
  refine hl_iload_n h 1 dX0_arrive_4 rfl ?_
  refine hl_iconst h 1 dX0_arrive_5 (by decide) ?_
  refine hl_zst h hl_wc_18 1 rfl dX0_arrive_6 (by with_reducible assumption) hl_wc_t14 ?_
  refine hl_nmC (fun g1 e2 => ?_)
  refine hl_aload_n h 0 dX0_arrive_7 rfl ?_
  refine hl_get h hi0 hl_wc_3 rfl 5 rfl dX0_arrive_8 (by decide) (by decide +kernel) ?_
  refine hl_iload_n h 1 dX0_arrive_11 rfl ?_
  refine hl_iload_n h 2 dX0_arrive_12 rfl ?_
  refine hl_ist h hl_wc_19 0 rfl dX0_arrive_13 (by with_reducible assumption) hl_wc_t15 ?_
  refine hl_nmC (fun g3 e4 => ?_)
  exact hend dX0_arrive_14 (by
    subst e4; subst e2
    exact (congrArg (hl_WC a cI cZ) (by rfl)))

set_option maxHeartbeats 4000000 in
set_option maxRecDepth 100000 in
theorem c_X0_countFor (l : Launch) (D : va_G) (cI cZ cJ : ClassId) (a : Nat → Nat) (g : Nat → Nat → Int32) (x y z : Int32) (N : Nat) (hN : N ≤ 80) (hc : g 16 0 = nI N) : hl_KI D (hl_ty cI cZ cJ) l yX0_countFor wsX0_countFor ({ frames := 0, cells := 0, slots := 0, locals := 0 } : Room) 0 0 [.ref (a 3), .int x, .int y, .int z] (hl_WC a cI cZ g) (fun r w => r = hl_it (b_X0_countFor g x y z) 0 N 0 ∧ w = hl_WC a cI cZ g) := by
  refine hl_KI_of (cc := cX0_countFor) (maxL := 6) .int rfl (fun _ => Or.inr rfl) (by decide) rfl (Nat.le_of_ble_eq_true rfl) ?_
  intro p e s m args below meth c A Q h hend
  have hi0 : ∀ z ∈ wsX00, z ∈ wsX0_countFor := by decide +kernel
  refine hl_ls (ls' := [(0, .ref (a 3)), (1, .int x), (2, .int y), (3, .int z)]) rfl ?_
  refine hl_iconst h 0 dX0_countFor_0 (by decide) ?_
  refine hl_istore h [(4, .int 0), (0, .ref (a 3)), (1, .int x), (2, .int y), (3, .int z)] dX0_countFor_1 (by decide) rfl ?_
  refine hl_iconst h 0 dX0_countFor_3 (by decide) ?_
  refine hl_istore h [(5, .int 0), (4, .int 0), (0, .ref (a 3)), (1, .int x), (2, .int y), (3, .int z)] dX0_countFor_4 (by decide) rfl ?_
  have lp6 : ∀ (n : Nat) (i : Nat) (u : Int32), i + n = N → hl_it (b_X0_countFor g x y z) i n u = hl_it (b_X0_countFor g x y z) 0 N 0 →  hl_X p l e ({ frames := 0, cells := 0, slots := 0, locals := 0 } : Room) s m args below meth c 6 D A 0 0 Q (hl_WC a cI cZ g) 6 [(0, .ref (a 3)), (1, .int x), (2, .int y), (3, .int z), (4, .int u), (5, .int (nI i))] [] := by
    intro n
    induction n with
    | zero =>
      intro i u hi hv
      refine hl_iload h 5 dX0_countFor_6 rfl ?_
      refine hl_aload_n h 0 dX0_countFor_8 rfl ?_
      refine hl_get h hi0 hl_wc_3 rfl 6 rfl dX0_countFor_9 (by decide) (by decide +kernel) ?_
      refine hl_icmp_ge_T h 57 dX0_countFor_12 (by decide) (by rw [hc]; exact nI_le (by omega) (by omega)) ?_
      refine hl_iload h 4 dX0_countFor_57 rfl ?_
      exact hend dX0_countFor_59 (fun h9 => nomatch h9) (by
        exact ⟨hv, rfl⟩)
    | succ n ih =>
      intro i u hi hv
      refine hl_iload h 5 dX0_countFor_6 rfl ?_
      refine hl_aload_n h 0 dX0_countFor_8 rfl ?_
      refine hl_get h hi0 hl_wc_3 rfl 6 rfl dX0_countFor_9 (by decide) (by decide +kernel) ?_
      refine hl_icmp_ge_F h 57 dX0_countFor_12 (by decide) (by rw [hc]; exact nI_ge (by omega) (by omega)) ?_
      refine hl_aload_n h 0 dX0_countFor_15 rfl ?_
      refine hl_get h hi0 hl_wc_3 rfl 1 rfl dX0_countFor_16 (by decide) (by decide +kernel) ?_
      refine hl_iload h 5 dX0_countFor_19 rfl ?_
      refine hl_ildN h hl_wc_15 0 rfl i dX0_countFor_21 rfl (by omega) (by decide) ?_
      refine hl_iload_n h 1 dX0_countFor_22 rfl ?_
      refine hl_icmp_ne h 51 dX0_countFor_23 (by decide) (fun c1 => ?_) (fun c1 => ?_)
      · refine hl_iinc h 5 (nI (i + 1)) [(5, .int (nI (i + 1))), (0, .ref (a 3)), (1, .int x), (2, .int y), (3, .int z), (4, .int u)] dX0_countFor_51 rfl (hl_inc i) (by decide) rfl ?_
        refine hl_goto h 6 dX0_countFor_54 (by decide) ?_
        refine hl_lsub [1, 2, 3, 4, 5, 0] rfl ?_
        exact ih (i + 1) u (by omega) (by rw [← hv, hl_it_s] <;> (congr 1 <;> (first | (simp [b_X0_countFor, c1]; done) | (symm; simp [b_X0_countFor, c1]))))
      · refine hl_aload_n h 0 dX0_countFor_26 rfl ?_
        refine hl_get h hi0 hl_wc_3 rfl 2 rfl dX0_countFor_27 (by decide) (by decide +kernel) ?_
        refine hl_iload h 5 dX0_countFor_30 rfl ?_
        refine hl_ildN h hl_wc_16 0 rfl i dX0_countFor_32 rfl (by omega) (by decide) ?_
        refine hl_iload_n h 2 dX0_countFor_33 rfl ?_
        refine hl_icmp_ne h 51 dX0_countFor_34 (by decide) (fun c2 => ?_) (fun c2 => ?_)
        · refine hl_iinc h 5 (nI (i + 1)) [(5, .int (nI (i + 1))), (0, .ref (a 3)), (1, .int x), (2, .int y), (3, .int z), (4, .int u)] dX0_countFor_51 rfl (hl_inc i) (by decide) rfl ?_
          refine hl_goto h 6 dX0_countFor_54 (by decide) ?_
          refine hl_lsub [1, 2, 3, 4, 5, 0] rfl ?_
          exact ih (i + 1) u (by omega) (by rw [← hv, hl_it_s] <;> (congr 1 <;> (first | (simp [b_X0_countFor, c1, c2]; done) | (symm; simp [b_X0_countFor, c1, c2]))))
        · refine hl_aload_n h 0 dX0_countFor_37 rfl ?_
          refine hl_get h hi0 hl_wc_3 rfl 3 rfl dX0_countFor_38 (by decide) (by decide +kernel) ?_
          refine hl_iload h 5 dX0_countFor_41 rfl ?_
          refine hl_ildN h hl_wc_17 0 rfl i dX0_countFor_43 rfl (by omega) (by decide) ?_
          refine hl_iload_n h 3 dX0_countFor_44 rfl ?_
          refine hl_icmp_ne h 51 dX0_countFor_45 (by decide) (fun c3 => ?_) (fun c3 => ?_)
          · refine hl_iinc h 5 (nI (i + 1)) [(5, .int (nI (i + 1))), (0, .ref (a 3)), (1, .int x), (2, .int y), (3, .int z), (4, .int u)] dX0_countFor_51 rfl (hl_inc i) (by decide) rfl ?_
            refine hl_goto h 6 dX0_countFor_54 (by decide) ?_
            refine hl_lsub [1, 2, 3, 4, 5, 0] rfl ?_
            exact ih (i + 1) u (by omega) (by rw [← hv, hl_it_s] <;> (congr 1 <;> (first | (simp [b_X0_countFor, c1, c2, c3]; done) | (symm; simp [b_X0_countFor, c1, c2, c3]))))
          · refine hl_iinc h 4 (u + 1) [(4, .int (u + 1)), (0, .ref (a 3)), (1, .int x), (2, .int y), (3, .int z), (5, .int (nI i))] dX0_countFor_48 rfl rfl (by decide) rfl ?_
            refine hl_iinc h 5 (nI (i + 1)) [(5, .int (nI (i + 1))), (4, .int (u + 1)), (0, .ref (a 3)), (1, .int x), (2, .int y), (3, .int z)] dX0_countFor_51 rfl (hl_inc i) (by decide) rfl ?_
            refine hl_goto h 6 dX0_countFor_54 (by decide) ?_
            refine hl_lsub [2, 3, 4, 5, 1, 0] rfl ?_
            exact ih (i + 1) (u + 1) (by omega) (by rw [← hv, hl_it_s] <;> (congr 1 <;> (first | (simp [b_X0_countFor, c1, c2, c3]; done) | (symm; simp [b_X0_countFor, c1, c2, c3]))))
  refine hl_lsub [2, 3, 4, 5, 1, 0] rfl ?_
  exact lp6 N 0 0 (Nat.zero_add N) rfl

set_option maxHeartbeats 4000000 in
set_option maxRecDepth 100000 in
theorem c_X0_missedIn (l : Launch) (D : va_G) (cI cZ cJ : ClassId) (a : Nat → Nat) (g : Nat → Nat → Int32) (x : Int32) (N : Nat) (hN : N ≤ 80) (hc : g 16 0 = nI N) : hl_KI D (hl_ty cI cZ cJ) l yX0_missedIn wsX0_missedIn ({ frames := 0, cells := 0, slots := 0, locals := 0 } : Room) 0 0 [.ref (a 3), .int x] (hl_WC a cI cZ g) (fun r w => r = hl_it (b_X0_missedIn g x) 0 N 0 ∧ w = hl_WC a cI cZ g) := by
  refine hl_KI_of (cc := cX0_missedIn) (maxL := 4) .int rfl (fun _ => Or.inr rfl) (by decide) rfl (Nat.le_of_ble_eq_true rfl) ?_
  intro p e s m args below meth c A Q h hend
  have hi0 : ∀ z ∈ wsX00, z ∈ wsX0_missedIn := by decide +kernel
  refine hl_ls (ls' := [(0, .ref (a 3)), (1, .int x)]) rfl ?_
  refine hl_iconst h 0 dX0_missedIn_0 (by decide) ?_
  refine hl_istore_n h [(2, .int 0), (0, .ref (a 3)), (1, .int x)] dX0_missedIn_1 (by decide) rfl ?_
  refine hl_iconst h 0 dX0_missedIn_2 (by decide) ?_
  refine hl_istore_n h [(3, .int 0), (2, .int 0), (0, .ref (a 3)), (1, .int x)] dX0_missedIn_3 (by decide) rfl ?_
  have lp4 : ∀ (n : Nat) (i : Nat) (u : Int32), i + n = N → hl_it (b_X0_missedIn g x) i n u = hl_it (b_X0_missedIn g x) 0 N 0 →  hl_X p l e ({ frames := 0, cells := 0, slots := 0, locals := 0 } : Room) s m args below meth c 4 D A 0 0 Q (hl_WC a cI cZ g) 4 [(0, .ref (a 3)), (1, .int x), (2, .int u), (3, .int (nI i))] [] := by
    intro n
    induction n with
    | zero =>
      intro i u hi hv
      refine hl_iload_n h 3 dX0_missedIn_4 rfl ?_
      refine hl_aload_n h 0 dX0_missedIn_5 rfl ?_
      refine hl_get h hi0 hl_wc_3 rfl 6 rfl dX0_missedIn_6 (by decide) (by decide +kernel) ?_
      refine hl_icmp_ge_T h 40 dX0_missedIn_9 (by decide) (by rw [hc]; exact nI_le (by omega) (by omega)) ?_
      refine hl_iload_n h 2 dX0_missedIn_40 rfl ?_
      exact hend dX0_missedIn_41 (fun h9 => nomatch h9) (by
        exact ⟨hv, rfl⟩)
    | succ n ih =>
      intro i u hi hv
      refine hl_iload_n h 3 dX0_missedIn_4 rfl ?_
      refine hl_aload_n h 0 dX0_missedIn_5 rfl ?_
      refine hl_get h hi0 hl_wc_3 rfl 6 rfl dX0_missedIn_6 (by decide) (by decide +kernel) ?_
      refine hl_icmp_ge_F h 40 dX0_missedIn_9 (by decide) (by rw [hc]; exact nI_ge (by omega) (by omega)) ?_
      refine hl_aload_n h 0 dX0_missedIn_12 rfl ?_
      refine hl_get h hi0 hl_wc_3 rfl 3 rfl dX0_missedIn_13 (by decide) (by decide +kernel) ?_
      refine hl_iload_n h 3 dX0_missedIn_16 rfl ?_
      refine hl_ildN h hl_wc_17 0 rfl i dX0_missedIn_17 rfl (by omega) (by decide) ?_
      refine hl_iload_n h 1 dX0_missedIn_18 rfl ?_
      refine hl_icmp_ne h 34 dX0_missedIn_19 (by decide) (fun c1 => ?_) (fun c1 => ?_)
      · refine hl_iinc h 3 (nI (i + 1)) [(3, .int (nI (i + 1))), (0, .ref (a 3)), (1, .int x), (2, .int u)] dX0_missedIn_34 rfl (hl_inc i) (by decide) rfl ?_
        refine hl_goto h 4 dX0_missedIn_37 (by decide) ?_
        refine hl_lsub [1, 2, 3, 0] rfl ?_
        exact ih (i + 1) u (by omega) (by rw [← hv, hl_it_s] <;> (congr 1 <;> (first | (simp [b_X0_missedIn, c1]; done) | (symm; simp [b_X0_missedIn, c1]))))
      · refine hl_aload_n h 0 dX0_missedIn_22 rfl ?_
        refine hl_get h hi0 hl_wc_3 rfl 4 rfl dX0_missedIn_23 (by decide) (by decide +kernel) ?_
        refine hl_iload_n h 3 dX0_missedIn_26 rfl ?_
        refine hl_zldN h hl_wc_18 1 rfl i dX0_missedIn_27 rfl (by omega) (by decide) ?_
        refine hl_if_ne h 34 dX0_missedIn_28 (by decide) (fun c2 => ?_) (fun c2 => ?_)
        · refine hl_iinc h 3 (nI (i + 1)) [(3, .int (nI (i + 1))), (0, .ref (a 3)), (1, .int x), (2, .int u)] dX0_missedIn_34 rfl (hl_inc i) (by decide) rfl ?_
          refine hl_goto h 4 dX0_missedIn_37 (by decide) ?_
          refine hl_lsub [1, 2, 3, 0] rfl ?_
          exact ih (i + 1) u (by omega) (by rw [← hv, hl_it_s] <;> (congr 1 <;> (first | (simp [b_X0_missedIn, c1, c2]; done) | (symm; simp [b_X0_missedIn, c1, c2]))))
        · refine hl_iinc h 2 (u + 1) [(2, .int (u + 1)), (0, .ref (a 3)), (1, .int x), (3, .int (nI i))] dX0_missedIn_31 rfl rfl (by decide) rfl ?_
          refine hl_iinc h 3 (nI (i + 1)) [(3, .int (nI (i + 1))), (2, .int (u + 1)), (0, .ref (a 3)), (1, .int x)] dX0_missedIn_34 rfl (hl_inc i) (by decide) rfl ?_
          refine hl_goto h 4 dX0_missedIn_37 (by decide) ?_
          refine hl_lsub [2, 3, 1, 0] rfl ?_
          exact ih (i + 1) (u + 1) (by omega) (by rw [← hv, hl_it_s] <;> (congr 1 <;> (first | (simp [b_X0_missedIn, c1, c2]; done) | (symm; simp [b_X0_missedIn, c1, c2]))))
  refine hl_lsub [2, 3, 1, 0] rfl ?_
  exact lp4 N 0 0 (Nat.zero_add N) rfl

set_option maxHeartbeats 4000000 in
set_option maxRecDepth 100000 in
theorem c_X0_missedAt (l : Launch) (D : va_G) (cI cZ cJ : ClassId) (a : Nat → Nat) (g : Nat → Nat → Int32) (x y z : Int32) (N : Nat) (hN : N ≤ 80) (hc : g 16 0 = nI N) : hl_KI D (hl_ty cI cZ cJ) l yX0_missedAt wsX0_missedAt ({ frames := 0, cells := 0, slots := 0, locals := 0 } : Room) 0 0 [.ref (a 3), .int x, .int y, .int z] (hl_WC a cI cZ g) (fun r w => r = hl_it (b_X0_missedAt g x y z) 0 N 0 ∧ w = hl_WC a cI cZ g) := by
  refine hl_KI_of (cc := cX0_missedAt) (maxL := 6) .int rfl (fun _ => Or.inr rfl) (by decide) rfl (Nat.le_of_ble_eq_true rfl) ?_
  intro p e s m args below meth c A Q h hend
  have hi0 : ∀ z ∈ wsX00, z ∈ wsX0_missedAt := by decide +kernel
  refine hl_ls (ls' := [(0, .ref (a 3)), (1, .int x), (2, .int y), (3, .int z)]) rfl ?_
  refine hl_iconst h 0 dX0_missedAt_0 (by decide) ?_
  refine hl_istore h [(4, .int 0), (0, .ref (a 3)), (1, .int x), (2, .int y), (3, .int z)] dX0_missedAt_1 (by decide) rfl ?_
  refine hl_iconst h 0 dX0_missedAt_3 (by decide) ?_
  refine hl_istore h [(5, .int 0), (4, .int 0), (0, .ref (a 3)), (1, .int x), (2, .int y), (3, .int z)] dX0_missedAt_4 (by decide) rfl ?_
  have lp6 : ∀ (n : Nat) (i : Nat) (u : Int32), i + n = N → hl_it (b_X0_missedAt g x y z) i n u = hl_it (b_X0_missedAt g x y z) 0 N 0 →  hl_X p l e ({ frames := 0, cells := 0, slots := 0, locals := 0 } : Room) s m args below meth c 6 D A 0 0 Q (hl_WC a cI cZ g) 6 [(0, .ref (a 3)), (1, .int x), (2, .int y), (3, .int z), (4, .int u), (5, .int (nI i))] [] := by
    intro n
    induction n with
    | zero =>
      intro i u hi hv
      refine hl_iload h 5 dX0_missedAt_6 rfl ?_
      refine hl_aload_n h 0 dX0_missedAt_8 rfl ?_
      refine hl_get h hi0 hl_wc_3 rfl 6 rfl dX0_missedAt_9 (by decide) (by decide +kernel) ?_
      refine hl_icmp_ge_T h 67 dX0_missedAt_12 (by decide) (by rw [hc]; exact nI_le (by omega) (by omega)) ?_
      refine hl_iload h 4 dX0_missedAt_67 rfl ?_
      exact hend dX0_missedAt_69 (fun h9 => nomatch h9) (by
        exact ⟨hv, rfl⟩)
    | succ n ih =>
      intro i u hi hv
      refine hl_iload h 5 dX0_missedAt_6 rfl ?_
      refine hl_aload_n h 0 dX0_missedAt_8 rfl ?_
      refine hl_get h hi0 hl_wc_3 rfl 6 rfl dX0_missedAt_9 (by decide) (by decide +kernel) ?_
      refine hl_icmp_ge_F h 67 dX0_missedAt_12 (by decide) (by rw [hc]; exact nI_ge (by omega) (by omega)) ?_
      refine hl_aload_n h 0 dX0_missedAt_15 rfl ?_
      refine hl_get h hi0 hl_wc_3 rfl 1 rfl dX0_missedAt_16 (by decide) (by decide +kernel) ?_
      refine hl_iload h 5 dX0_missedAt_19 rfl ?_
      refine hl_ildN h hl_wc_15 0 rfl i dX0_missedAt_21 rfl (by omega) (by decide) ?_
      refine hl_iload_n h 1 dX0_missedAt_22 rfl ?_
      refine hl_icmp_ne h 61 dX0_missedAt_23 (by decide) (fun c1 => ?_) (fun c1 => ?_)
      · refine hl_iinc h 5 (nI (i + 1)) [(5, .int (nI (i + 1))), (0, .ref (a 3)), (1, .int x), (2, .int y), (3, .int z), (4, .int u)] dX0_missedAt_61 rfl (hl_inc i) (by decide) rfl ?_
        refine hl_goto h 6 dX0_missedAt_64 (by decide) ?_
        refine hl_lsub [1, 2, 3, 4, 5, 0] rfl ?_
        exact ih (i + 1) u (by omega) (by rw [← hv, hl_it_s] <;> (congr 1 <;> (first | (simp [b_X0_missedAt, c1]; done) | (symm; simp [b_X0_missedAt, c1]))))
      · refine hl_aload_n h 0 dX0_missedAt_26 rfl ?_
        refine hl_get h hi0 hl_wc_3 rfl 3 rfl dX0_missedAt_27 (by decide) (by decide +kernel) ?_
        refine hl_iload h 5 dX0_missedAt_30 rfl ?_
        refine hl_ildN h hl_wc_17 0 rfl i dX0_missedAt_32 rfl (by omega) (by decide) ?_
        refine hl_iload_n h 2 dX0_missedAt_33 rfl ?_
        refine hl_icmp_lt h 61 dX0_missedAt_34 (by decide) (fun c2 => ?_) (fun c2 => ?_)
        · refine hl_iinc h 5 (nI (i + 1)) [(5, .int (nI (i + 1))), (0, .ref (a 3)), (1, .int x), (2, .int y), (3, .int z), (4, .int u)] dX0_missedAt_61 rfl (hl_inc i) (by decide) rfl ?_
          refine hl_goto h 6 dX0_missedAt_64 (by decide) ?_
          refine hl_lsub [1, 2, 3, 4, 5, 0] rfl ?_
          exact ih (i + 1) u (by omega) (by rw [← hv, hl_it_s] <;> (congr 1 <;> (first | (simp [b_X0_missedAt, c1, c2]; done) | (symm; simp [b_X0_missedAt, c1, c2]))))
        · refine hl_aload_n h 0 dX0_missedAt_37 rfl ?_
          refine hl_get h hi0 hl_wc_3 rfl 3 rfl dX0_missedAt_38 (by decide) (by decide +kernel) ?_
          refine hl_iload h 5 dX0_missedAt_41 rfl ?_
          refine hl_ildN h hl_wc_17 0 rfl i dX0_missedAt_43 rfl (by omega) (by decide) ?_
          refine hl_iload_n h 3 dX0_missedAt_44 rfl ?_
          refine hl_icmp_ge h 61 dX0_missedAt_45 (by decide) (fun c3 => ?_) (fun c3 => ?_)
          · refine hl_iinc h 5 (nI (i + 1)) [(5, .int (nI (i + 1))), (0, .ref (a 3)), (1, .int x), (2, .int y), (3, .int z), (4, .int u)] dX0_missedAt_61 rfl (hl_inc i) (by decide) rfl ?_
            refine hl_goto h 6 dX0_missedAt_64 (by decide) ?_
            refine hl_lsub [1, 2, 3, 4, 5, 0] rfl ?_
            exact ih (i + 1) u (by omega) (by rw [← hv, hl_it_s] <;> (congr 1 <;> (first | (simp [b_X0_missedAt, c1, c2, c3]; done) | (symm; simp [b_X0_missedAt, c1, c2, c3]))))
          · refine hl_aload_n h 0 dX0_missedAt_48 rfl ?_
            refine hl_get h hi0 hl_wc_3 rfl 4 rfl dX0_missedAt_49 (by decide) (by decide +kernel) ?_
            refine hl_iload h 5 dX0_missedAt_52 rfl ?_
            refine hl_zldN h hl_wc_18 1 rfl i dX0_missedAt_54 rfl (by omega) (by decide) ?_
            refine hl_if_ne h 61 dX0_missedAt_55 (by decide) (fun c4 => ?_) (fun c4 => ?_)
            · refine hl_iinc h 5 (nI (i + 1)) [(5, .int (nI (i + 1))), (0, .ref (a 3)), (1, .int x), (2, .int y), (3, .int z), (4, .int u)] dX0_missedAt_61 rfl (hl_inc i) (by decide) rfl ?_
              refine hl_goto h 6 dX0_missedAt_64 (by decide) ?_
              refine hl_lsub [1, 2, 3, 4, 5, 0] rfl ?_
              exact ih (i + 1) u (by omega) (by rw [← hv, hl_it_s] <;> (congr 1 <;> (first | (simp [b_X0_missedAt, c1, c2, c3, c4]; done) | (symm; simp [b_X0_missedAt, c1, c2, c3, c4]))))
            · refine hl_iinc h 4 (u + 1) [(4, .int (u + 1)), (0, .ref (a 3)), (1, .int x), (2, .int y), (3, .int z), (5, .int (nI i))] dX0_missedAt_58 rfl rfl (by decide) rfl ?_
              refine hl_iinc h 5 (nI (i + 1)) [(5, .int (nI (i + 1))), (4, .int (u + 1)), (0, .ref (a 3)), (1, .int x), (2, .int y), (3, .int z)] dX0_missedAt_61 rfl (hl_inc i) (by decide) rfl ?_
              refine hl_goto h 6 dX0_missedAt_64 (by decide) ?_
              refine hl_lsub [2, 3, 4, 5, 1, 0] rfl ?_
              exact ih (i + 1) (u + 1) (by omega) (by rw [← hv, hl_it_s] <;> (congr 1 <;> (first | (simp [b_X0_missedAt, c1, c2, c3, c4]; done) | (symm; simp [b_X0_missedAt, c1, c2, c3, c4]))))
  refine hl_lsub [2, 3, 4, 5, 1, 0] rfl ?_
  exact lp6 N 0 0 (Nat.zero_add N) rfl

set_option maxHeartbeats 4000000 in
set_option maxRecDepth 100000 in
theorem c_X0_sleepersAt (l : Launch) (D : va_G) (cI cZ cJ : ClassId) (a : Nat → Nat) (g : Nat → Nat → Int32) (x y z : Int32) (N : Nat) (hN : N ≤ 80) (hc : g 16 0 = nI N) : hl_KI D (hl_ty cI cZ cJ) l yX0_sleepersAt wsX0_sleepersAt ({ frames := 0, cells := 0, slots := 0, locals := 0 } : Room) 0 0 [.ref (a 3), .int x, .int y, .int z] (hl_WC a cI cZ g) (fun r w => r = hl_it (b_X0_sleepersAt g x y z) 0 N 0 ∧ w = hl_WC a cI cZ g) := by
  refine hl_KI_of (cc := cX0_sleepersAt) (maxL := 6) .int rfl (fun _ => Or.inr rfl) (by decide) rfl (Nat.le_of_ble_eq_true rfl) ?_
  intro p e s m args below meth c A Q h hend
  have hi0 : ∀ z ∈ wsX00, z ∈ wsX0_sleepersAt := by decide +kernel
  refine hl_ls (ls' := [(0, .ref (a 3)), (1, .int x), (2, .int y), (3, .int z)]) rfl ?_
  refine hl_iconst h 0 dX0_sleepersAt_0 (by decide) ?_
  refine hl_istore h [(4, .int 0), (0, .ref (a 3)), (1, .int x), (2, .int y), (3, .int z)] dX0_sleepersAt_1 (by decide) rfl ?_
  refine hl_iconst h 0 dX0_sleepersAt_3 (by decide) ?_
  refine hl_istore h [(5, .int 0), (4, .int 0), (0, .ref (a 3)), (1, .int x), (2, .int y), (3, .int z)] dX0_sleepersAt_4 (by decide) rfl ?_
  have lp6 : ∀ (n : Nat) (i : Nat) (u : Int32), i + n = N → hl_it (b_X0_sleepersAt g x y z) i n u = hl_it (b_X0_sleepersAt g x y z) 0 N 0 →  hl_X p l e ({ frames := 0, cells := 0, slots := 0, locals := 0 } : Room) s m args below meth c 6 D A 0 0 Q (hl_WC a cI cZ g) 6 [(0, .ref (a 3)), (1, .int x), (2, .int y), (3, .int z), (4, .int u), (5, .int (nI i))] [] := by
    intro n
    induction n with
    | zero =>
      intro i u hi hv
      refine hl_iload h 5 dX0_sleepersAt_6 rfl ?_
      refine hl_aload_n h 0 dX0_sleepersAt_8 rfl ?_
      refine hl_get h hi0 hl_wc_3 rfl 6 rfl dX0_sleepersAt_9 (by decide) (by decide +kernel) ?_
      refine hl_icmp_ge_T h 57 dX0_sleepersAt_12 (by decide) (by rw [hc]; exact nI_le (by omega) (by omega)) ?_
      refine hl_iload h 4 dX0_sleepersAt_57 rfl ?_
      exact hend dX0_sleepersAt_59 (fun h9 => nomatch h9) (by
        exact ⟨hv, rfl⟩)
    | succ n ih =>
      intro i u hi hv
      refine hl_iload h 5 dX0_sleepersAt_6 rfl ?_
      refine hl_aload_n h 0 dX0_sleepersAt_8 rfl ?_
      refine hl_get h hi0 hl_wc_3 rfl 6 rfl dX0_sleepersAt_9 (by decide) (by decide +kernel) ?_
      refine hl_icmp_ge_F h 57 dX0_sleepersAt_12 (by decide) (by rw [hc]; exact nI_ge (by omega) (by omega)) ?_
      refine hl_aload_n h 0 dX0_sleepersAt_15 rfl ?_
      refine hl_get h hi0 hl_wc_3 rfl 5 rfl dX0_sleepersAt_16 (by decide) (by decide +kernel) ?_
      refine hl_iload h 5 dX0_sleepersAt_19 rfl ?_
      refine hl_ildN h hl_wc_19 0 rfl i dX0_sleepersAt_21 rfl (by omega) (by decide) ?_
      refine hl_iload_n h 1 dX0_sleepersAt_22 rfl ?_
      refine hl_icmp_ne h 51 dX0_sleepersAt_23 (by decide) (fun c1 => ?_) (fun c1 => ?_)
      · refine hl_iinc h 5 (nI (i + 1)) [(5, .int (nI (i + 1))), (0, .ref (a 3)), (1, .int x), (2, .int y), (3, .int z), (4, .int u)] dX0_sleepersAt_51 rfl (hl_inc i) (by decide) rfl ?_
        refine hl_goto h 6 dX0_sleepersAt_54 (by decide) ?_
        refine hl_lsub [1, 2, 3, 4, 5, 0] rfl ?_
        exact ih (i + 1) u (by omega) (by rw [← hv, hl_it_s] <;> (congr 1 <;> (first | (simp [b_X0_sleepersAt, c1]; done) | (symm; simp [b_X0_sleepersAt, c1]))))
      · refine hl_aload_n h 0 dX0_sleepersAt_26 rfl ?_
        refine hl_get h hi0 hl_wc_3 rfl 2 rfl dX0_sleepersAt_27 (by decide) (by decide +kernel) ?_
        refine hl_iload h 5 dX0_sleepersAt_30 rfl ?_
        refine hl_ildN h hl_wc_16 0 rfl i dX0_sleepersAt_32 rfl (by omega) (by decide) ?_
        refine hl_iload_n h 2 dX0_sleepersAt_33 rfl ?_
        refine hl_icmp_ne h 51 dX0_sleepersAt_34 (by decide) (fun c2 => ?_) (fun c2 => ?_)
        · refine hl_iinc h 5 (nI (i + 1)) [(5, .int (nI (i + 1))), (0, .ref (a 3)), (1, .int x), (2, .int y), (3, .int z), (4, .int u)] dX0_sleepersAt_51 rfl (hl_inc i) (by decide) rfl ?_
          refine hl_goto h 6 dX0_sleepersAt_54 (by decide) ?_
          refine hl_lsub [1, 2, 3, 4, 5, 0] rfl ?_
          exact ih (i + 1) u (by omega) (by rw [← hv, hl_it_s] <;> (congr 1 <;> (first | (simp [b_X0_sleepersAt, c1, c2]; done) | (symm; simp [b_X0_sleepersAt, c1, c2]))))
        · refine hl_aload_n h 0 dX0_sleepersAt_37 rfl ?_
          refine hl_get h hi0 hl_wc_3 rfl 3 rfl dX0_sleepersAt_38 (by decide) (by decide +kernel) ?_
          refine hl_iload h 5 dX0_sleepersAt_41 rfl ?_
          refine hl_ildN h hl_wc_17 0 rfl i dX0_sleepersAt_43 rfl (by omega) (by decide) ?_
          refine hl_iload_n h 3 dX0_sleepersAt_44 rfl ?_
          refine hl_icmp_ne h 51 dX0_sleepersAt_45 (by decide) (fun c3 => ?_) (fun c3 => ?_)
          · refine hl_iinc h 5 (nI (i + 1)) [(5, .int (nI (i + 1))), (0, .ref (a 3)), (1, .int x), (2, .int y), (3, .int z), (4, .int u)] dX0_sleepersAt_51 rfl (hl_inc i) (by decide) rfl ?_
            refine hl_goto h 6 dX0_sleepersAt_54 (by decide) ?_
            refine hl_lsub [1, 2, 3, 4, 5, 0] rfl ?_
            exact ih (i + 1) u (by omega) (by rw [← hv, hl_it_s] <;> (congr 1 <;> (first | (simp [b_X0_sleepersAt, c1, c2, c3]; done) | (symm; simp [b_X0_sleepersAt, c1, c2, c3]))))
          · refine hl_iinc h 4 (u + 1) [(4, .int (u + 1)), (0, .ref (a 3)), (1, .int x), (2, .int y), (3, .int z), (5, .int (nI i))] dX0_sleepersAt_48 rfl rfl (by decide) rfl ?_
            refine hl_iinc h 5 (nI (i + 1)) [(5, .int (nI (i + 1))), (4, .int (u + 1)), (0, .ref (a 3)), (1, .int x), (2, .int y), (3, .int z)] dX0_sleepersAt_51 rfl (hl_inc i) (by decide) rfl ?_
            refine hl_goto h 6 dX0_sleepersAt_54 (by decide) ?_
            refine hl_lsub [2, 3, 4, 5, 1, 0] rfl ?_
            exact ih (i + 1) (u + 1) (by omega) (by rw [← hv, hl_it_s] <;> (congr 1 <;> (first | (simp [b_X0_sleepersAt, c1, c2, c3]; done) | (symm; simp [b_X0_sleepersAt, c1, c2, c3]))))
  refine hl_lsub [2, 3, 4, 5, 1, 0] rfl ?_
  exact lp6 N 0 0 (Nat.zero_add N) rfl

set_option maxHeartbeats 4000000 in
set_option maxRecDepth 100000 in
theorem c_X3_add (l : Launch) (D : va_G) (cI cZ cJ : ClassId) (a : Nat → Nat) (g : Nat → Nat → Int32) (x y z : Int32) (N : Nat) (hN : N ≤ 80) (hc : g 20 0 = nI N) : hl_KV D (hl_ty cI cZ cJ) l yX3_add wsX3_add ({ frames := 0, cells := 0, slots := 0, locals := 0 } : Room) 0 0 [.ref (a 4), .int x, .int y, .int z] (hl_WC a cI cZ g) (fun w => w = hl_WC a cI cZ (f_X3_add g x y z)) := by
  refine hl_KV_of (cc := cX3_add) (maxL := 4) (by decide) rfl (Nat.le_of_ble_eq_true rfl) ?_
  intro p e s m args below meth c A Q h hnm hend
  have hi3 : ∀ z ∈ wsX30, z ∈ wsX3_add := by decide +kernel
  refine hl_ls (ls' := [(0, .ref (a 4)), (1, .int x), (2, .int y), (3, .int z)]) rfl ?_
  refine hl_aload_n h 0 dX3_add_0 rfl ?_
  refine hl_get h hi3 hl_wc_4 rfl 3 rfl dX3_add_1 (by decide) (by decide +kernel) ?_
  refine hl_bipush h 80 dX3_add_4 (by decide) ?_
  refine hl_icmp_lt h 10 dX3_add_6 (by decide) (fun c1 => ?_) (fun c1 => ?_)
  · have hin : vp_in (g 20 0) 80 := hl_in 80 rfl (by rw [hc]; exact nI_pos (by omega)) c1
    refine hl_aload_n h 0 dX3_add_10 rfl ?_
    refine hl_get h hi3 hl_wc_4 rfl 0 rfl dX3_add_11 (by decide) (by decide +kernel) ?_
    refine hl_aload_n h 0 dX3_add_14 rfl ?_
    refine hl_get h hi3 hl_wc_4 rfl 3 rfl dX3_add_15 (by decide) (by decide +kernel) ?_
    refine hl_iload_n h 1 dX3_add_18 rfl ?_
    refine hl_ist h hl_wc_20 0 rfl dX3_add_19 hin hl_wc_t17 ?_
    refine hl_nmC (fun g2 e3 => ?_)
    refine hl_aload_n h 0 dX3_add_20 rfl ?_
    refine hl_get h hi3 hl_wc_4 rfl 1 rfl dX3_add_21 (by decide) (by decide +kernel) ?_
    refine hl_aload_n h 0 dX3_add_24 rfl ?_
    refine hl_get h hi3 hl_wc_4 rfl 3 rfl dX3_add_25 (by decide) (by decide +kernel) ?_
    refine hl_iload_n h 2 dX3_add_28 rfl ?_
    refine hl_ist h hl_wc_21 0 rfl dX3_add_29 (by subst e3; exact hin) hl_wc_t18 ?_
    refine hl_nmC (fun g4 e5 => ?_)
    refine hl_aload_n h 0 dX3_add_30 rfl ?_
    refine hl_get h hi3 hl_wc_4 rfl 2 rfl dX3_add_31 (by decide) (by decide +kernel) ?_
    refine hl_aload_n h 0 dX3_add_34 rfl ?_
    refine hl_get h hi3 hl_wc_4 rfl 3 rfl dX3_add_35 (by decide) (by decide +kernel) ?_
    refine hl_iload_n h 3 dX3_add_38 rfl ?_
    refine hl_ist h hl_wc_22 0 rfl dX3_add_39 (by subst e5; subst e3; exact hin) hl_wc_t19 ?_
    refine hl_nmC (fun g6 e7 => ?_)
    refine hl_aload_n h 0 dX3_add_40 rfl ?_
    refine hl_dup h dX3_add_41 rfl ?_
    refine hl_get h hi3 hl_wc_4 rfl 3 rfl dX3_add_42 (by decide) (by decide +kernel) ?_
    refine hl_iconst h 1 dX3_add_45 (by decide) ?_
    refine hl_iadd h dX3_add_46 ?_
    refine hl_put h hi3 tyX3_ok nmX3 hl_wc_4 rfl 3 dX3_add_47 (by decide) (by decide +kernel) (by decide) rfl rfl (Nat.le_of_ble_eq_true rfl) hl_wc_s20 ?_
    refine hl_nmC (fun g8 e9 => ?_)
    exact hend dX3_add_50 (by
      subst e9; subst e7; subst e5; subst e3
      exact congrArg (hl_WC a cI cZ) (by simp only [f_X3_add, if_pos c1]; rfl))
  · exact hend dX3_add_9 (by
      skip
      exact congrArg (hl_WC a cI cZ) (by simp only [f_X3_add, if_neg c1]))

set_option maxHeartbeats 4000000 in
set_option maxRecDepth 100000 in
theorem c_X3_ofGuest (l : Launch) (D : va_G) (cI cZ cJ : ClassId) (a : Nat → Nat) (g : Nat → Nat → Int32) (x : Int32) (N : Nat) (hN : N ≤ 80) (hc : g 20 0 = nI N) : hl_KI D (hl_ty cI cZ cJ) l yX3_ofGuest wsX3_ofGuest ({ frames := 0, cells := 0, slots := 0, locals := 0 } : Room) 0 0 [.ref (a 4), .int x] (hl_WC a cI cZ g) (fun r w => r = hl_it (b_X3_ofGuest g x) 0 N 0 ∧ w = hl_WC a cI cZ g) := by
  refine hl_KI_of (cc := cX3_ofGuest) (maxL := 4) .int rfl (fun _ => Or.inr rfl) (by decide) rfl (Nat.le_of_ble_eq_true rfl) ?_
  intro p e s m args below meth c A Q h hend
  have hi3 : ∀ z ∈ wsX30, z ∈ wsX3_ofGuest := by decide +kernel
  refine hl_ls (ls' := [(0, .ref (a 4)), (1, .int x)]) rfl ?_
  refine hl_iconst h 0 dX3_ofGuest_0 (by decide) ?_
  refine hl_istore_n h [(2, .int 0), (0, .ref (a 4)), (1, .int x)] dX3_ofGuest_1 (by decide) rfl ?_
  refine hl_iconst h 0 dX3_ofGuest_2 (by decide) ?_
  refine hl_istore_n h [(3, .int 0), (2, .int 0), (0, .ref (a 4)), (1, .int x)] dX3_ofGuest_3 (by decide) rfl ?_
  have lp4 : ∀ (n : Nat) (i : Nat) (u : Int32), i + n = N → hl_it (b_X3_ofGuest g x) i n u = hl_it (b_X3_ofGuest g x) 0 N 0 →  hl_X p l e ({ frames := 0, cells := 0, slots := 0, locals := 0 } : Room) s m args below meth c 4 D A 0 0 Q (hl_WC a cI cZ g) 4 [(0, .ref (a 4)), (1, .int x), (2, .int u), (3, .int (nI i))] [] := by
    intro n
    induction n with
    | zero =>
      intro i u hi hv
      refine hl_iload_n h 3 dX3_ofGuest_4 rfl ?_
      refine hl_aload_n h 0 dX3_ofGuest_5 rfl ?_
      refine hl_get h hi3 hl_wc_4 rfl 3 rfl dX3_ofGuest_6 (by decide) (by decide +kernel) ?_
      refine hl_icmp_ge_T h 37 dX3_ofGuest_9 (by decide) (by rw [hc]; exact nI_le (by omega) (by omega)) ?_
      refine hl_iload_n h 2 dX3_ofGuest_37 rfl ?_
      exact hend dX3_ofGuest_38 (fun h9 => nomatch h9) (by
        exact ⟨hv, rfl⟩)
    | succ n ih =>
      intro i u hi hv
      refine hl_iload_n h 3 dX3_ofGuest_4 rfl ?_
      refine hl_aload_n h 0 dX3_ofGuest_5 rfl ?_
      refine hl_get h hi3 hl_wc_4 rfl 3 rfl dX3_ofGuest_6 (by decide) (by decide +kernel) ?_
      refine hl_icmp_ge_F h 37 dX3_ofGuest_9 (by decide) (by rw [hc]; exact nI_ge (by omega) (by omega)) ?_
      refine hl_aload_n h 0 dX3_ofGuest_12 rfl ?_
      refine hl_get h hi3 hl_wc_4 rfl 0 rfl dX3_ofGuest_13 (by decide) (by decide +kernel) ?_
      refine hl_iload_n h 3 dX3_ofGuest_16 rfl ?_
      refine hl_ildN h hl_wc_20 0 rfl i dX3_ofGuest_17 rfl (by omega) (by decide) ?_
      refine hl_iload_n h 1 dX3_ofGuest_18 rfl ?_
      refine hl_icmp_ne h 31 dX3_ofGuest_19 (by decide) (fun c1 => ?_) (fun c1 => ?_)
      · refine hl_iinc h 3 (nI (i + 1)) [(3, .int (nI (i + 1))), (0, .ref (a 4)), (1, .int x), (2, .int u)] dX3_ofGuest_31 rfl (hl_inc i) (by decide) rfl ?_
        refine hl_goto h 4 dX3_ofGuest_34 (by decide) ?_
        refine hl_lsub [1, 2, 3, 0] rfl ?_
        exact ih (i + 1) u (by omega) (by rw [← hv, hl_it_s] <;> (congr 1 <;> (first | (simp [b_X3_ofGuest, c1]; done) | (symm; simp [b_X3_ofGuest, c1]))))
      · refine hl_iload_n h 2 dX3_ofGuest_22 rfl ?_
        refine hl_aload_n h 0 dX3_ofGuest_23 rfl ?_
        refine hl_get h hi3 hl_wc_4 rfl 2 rfl dX3_ofGuest_24 (by decide) (by decide +kernel) ?_
        refine hl_iload_n h 3 dX3_ofGuest_27 rfl ?_
        refine hl_ildN h hl_wc_22 0 rfl i dX3_ofGuest_28 rfl (by omega) (by decide) ?_
        refine hl_iadd h dX3_ofGuest_29 ?_
        refine hl_istore_n h [(2, .int (u + (g 19 i))), (0, .ref (a 4)), (1, .int x), (3, .int (nI i))] dX3_ofGuest_30 (by decide) rfl ?_
        refine hl_iinc h 3 (nI (i + 1)) [(3, .int (nI (i + 1))), (2, .int (u + (g 19 i))), (0, .ref (a 4)), (1, .int x)] dX3_ofGuest_31 rfl (hl_inc i) (by decide) rfl ?_
        refine hl_goto h 4 dX3_ofGuest_34 (by decide) ?_
        refine hl_lsub [2, 3, 1, 0] rfl ?_
        exact ih (i + 1) (u + (g 19 i)) (by omega) (by rw [← hv, hl_it_s] <;> (congr 1 <;> (first | (simp [b_X3_ofGuest, c1]; done) | (symm; simp [b_X3_ofGuest, c1]))))
  refine hl_lsub [2, 3, 1, 0] rfl ?_
  exact lp4 N 0 0 (Nat.zero_add N) rfl

set_option maxHeartbeats 4000000 in
set_option maxRecDepth 100000 in
theorem c_X3_takeFrom (l : Launch) (D : va_G) (cI cZ cJ : ClassId) (a : Nat → Nat) (g : Nat → Nat → Int32) (x y n : Int32) (h1 : vp_in x 80) : hl_KI D (hl_ty cI cZ cJ) l yX3_takeFrom wsX3_takeFrom ({ frames := 1, cells := 0, slots := 0, locals := 13 } : Room) 0 0 [.ref (a 4), .int x, .int y, .int n] (hl_WC a cI cZ g) (fun r w => r = r_X3_takeFrom g x y n ∧ w = hl_WC a cI cZ (f_X3_takeFrom g x y n)) := by
  refine hl_KI_of (cc := cX3_takeFrom) (maxL := 5) .int rfl (fun _ => Or.inr rfl) (by decide) rfl (Nat.le_of_ble_eq_true rfl) ?_
  intro p e s m args below meth c A Q h hend
  have hi3 : ∀ z ∈ wsX30, z ∈ wsX3_takeFrom := by decide +kernel
  refine hl_ls (ls' := [(0, .ref (a 4)), (1, .int x), (2, .int y), (3, .int n)]) rfl ?_
  refine hl_aload_n h 0 dX3_takeFrom_0 rfl ?_
  refine hl_get h hi3 hl_wc_4 rfl 0 rfl dX3_takeFrom_1 (by decide) (by decide +kernel) ?_
  refine hl_iload_n h 1 dX3_takeFrom_4 rfl ?_
  refine hl_ild h hl_wc_20 0 rfl dX3_takeFrom_5 (by with_reducible assumption) ?_
  refine hl_iload_n h 2 dX3_takeFrom_6 rfl ?_
  refine hl_icmp_eq h 12 dX3_takeFrom_7 (by decide) (fun c1 => ?_) (fun c1 => ?_)
  · refine hl_aload_n h 0 dX3_takeFrom_12 rfl ?_
    refine hl_get h hi3 hl_wc_4 rfl 2 rfl dX3_takeFrom_13 (by decide) (by decide +kernel) ?_
    refine hl_iload_n h 1 dX3_takeFrom_16 rfl ?_
    refine hl_ild h hl_wc_22 0 rfl dX3_takeFrom_17 (by with_reducible assumption) ?_
    refine hl_iload_n h 3 dX3_takeFrom_18 rfl ?_
    refine hl_min h dX3_takeFrom_19 (by decide +kernel) (by decide +kernel) (by decide +kernel) (by decide +kernel) (Nat.le_of_ble_eq_true rfl) (Nat.le_of_ble_eq_true rfl) (Nat.le_of_ble_eq_true rfl) (Nat.le_of_ble_eq_true rfl) ?_
    refine hl_istore h [(4, .int (if n < (g 19 x.toNatClampNeg) then n else (g 19 x.toNatClampNeg))), (0, .ref (a 4)), (1, .int x), (2, .int y), (3, .int n)] dX3_takeFrom_22 (by decide) rfl ?_
    refine hl_aload_n h 1 dX3_takeFrom_24 rfl ?_
    refine hl_get h hi3 hl_wc_4 rfl 2 rfl dX3_takeFrom_25 (by decide) (by decide +kernel) ?_
    refine hl_iload_n h 2 dX3_takeFrom_28 rfl ?_
    refine hl_dup2 h dX3_takeFrom_29 rfl rfl ?_
    refine hl_ild h hl_wc_22 0 rfl dX3_takeFrom_30 (by with_reducible assumption) ?_
    refine hl_iload h 0 dX3_takeFrom_31 rfl ?_
    refine hl_isub h dX3_takeFrom_33 ?_
    refine hl_ist h hl_wc_22 0 rfl dX3_takeFrom_34 (by with_reducible assumption) hl_wc_t19 ?_
    refine hl_nmC (fun g2 e3 => ?_)
    refine hl_iload h 0 dX3_takeFrom_35 rfl ?_
    exact hend dX3_takeFrom_37 (fun h9 => nomatch h9) (by
      subst e3
      exact ⟨by simp only [r_X3_takeFrom, if_pos c1], congrArg (hl_WC a cI cZ) (by simp only [f_X3_takeFrom, if_pos c1])⟩)
  · refine hl_iconst h 0 dX3_takeFrom_10 (by decide) ?_
    exact hend dX3_takeFrom_11 (fun h9 => nomatch h9) (by
      skip
      exact ⟨by simp only [r_X3_takeFrom, if_neg c1], congrArg (hl_WC a cI cZ) (by simp only [f_X3_takeFrom, if_neg c1])⟩)

set_option maxHeartbeats 4000000 in
set_option maxRecDepth 100000 in
theorem c_X1_row (l : Launch) (D : va_G) (cI cZ cJ : ClassId) (a : Nat → Nat) (g : Nat → Nat → Int32) (x y : Int32) : hl_KI D (hl_ty cI cZ cJ) l yX1_row wsX1_row ({ frames := 0, cells := 0, slots := 0, locals := 0 } : Room) 0 0 [.int x, .int y] (hl_WC a cI cZ g) (fun r w => r = (x * 4 + y) ∧ w = hl_WC a cI cZ g) := by
  refine hl_KI_of (cc := cX1_row) (maxL := 2) .int rfl (fun _ => Or.inr rfl) (by decide) rfl (Nat.le_of_ble_eq_true rfl) ?_
  intro p e s m args below meth c A Q h hend
  refine hl_ls (ls' := [(0, .int x), (1, .int y)]) rfl ?_
  refine hl_iload_n h 0 dX1_row_0 rfl ?_
  refine hl_iconst h 4 dX1_row_1 (by decide) ?_
  refine hl_imul h dX1_row_2 ?_
  refine hl_iload_n h 1 dX1_row_3 rfl ?_
  refine hl_iadd h dX1_row_4 ?_
  exact hend dX1_row_5 (fun h9 => nomatch h9) (by
    exact ⟨by rfl, (congrArg (hl_WC a cI cZ) (by rfl))⟩)

set_option maxHeartbeats 4000000 in
set_option maxRecDepth 100000 in
theorem c_X1_receive (l : Launch) (D : va_G) (cI cZ cJ : ClassId) (a : Nat → Nat) (g : Nat → Nat → Int32) (x n : Int32) (h1 : vp_in x 4) : hl_KV D (hl_ty cI cZ cJ) l yX1_receive wsX1_receive ({ frames := 0, cells := 0, slots := 0, locals := 0 } : Room) 0 0 [.ref (a 5), .int x, .int n] (hl_WC a cI cZ g) (fun w => w = hl_WC a cI cZ (f_X1_receive g x n)) := by
  refine hl_KV_of (cc := cX1_receive) (maxL := 3) (by decide) rfl (Nat.le_of_ble_eq_true rfl) ?_
  intro p e s m args below meth c A Q h hnm hend
  have hi1 : ∀ z ∈ wsX10, z ∈ wsX1_receive := by decide +kernel
  refine hl_ls (ls' := [(0, .ref (a 5)), (1, .int x), (2, .int n)]) rfl ?_
  refine hl_aload_n h 0 dX1_receive_0 rfl ?_
  refine hl_get h hi1 hl_wc_5 rfl 0 rfl dX1_receive_1 (by decide) (by decide +kernel) ?_
  refine hl_iload_n h 1 dX1_receive_4 rfl ?_
  refine hl_dup2 h dX1_receive_5 rfl rfl ?_
  refine hl_ild h hl_wc_23 0 rfl dX1_receive_6 (by with_reducible assumption) ?_
  refine hl_iload_n h 2 dX1_receive_7 rfl ?_
  refine hl_iadd h dX1_receive_8 ?_
  refine hl_ist h hl_wc_23 0 rfl dX1_receive_9 (by with_reducible assumption) hl_wc_t21 ?_
  refine hl_nmC (fun g1 e2 => ?_)
  exact hend dX1_receive_10 (by
    subst e2
    exact (congrArg (hl_WC a cI cZ) (by rfl)))

set_option maxHeartbeats 4000000 in
set_option maxRecDepth 100000 in
theorem c_X1_owe (l : Launch) (D : va_G) (cI cZ cJ : ClassId) (a : Nat → Nat) (g : Nat → Nat → Int32) (x y n : Int32) (h1 : vp_in x 4) (h2 : vp_in y 4) : hl_KV D (hl_ty cI cZ cJ) l yX1_owe wsX1_owe ({ frames := 1, cells := 0, slots := 0, locals := 21 } : Room) 0 0 [.ref (a 5), .int x, .int y, .int n] (hl_WC a cI cZ g) (fun w => w = hl_WC a cI cZ (f_X1_owe g x y n)) := by
  refine hl_KV_of (cc := cX1_owe) (maxL := 4) (by decide) rfl (Nat.le_of_ble_eq_true rfl) ?_
  intro p e s m args below meth c A Q h hnm hend
  have hi1 : ∀ z ∈ wsX10, z ∈ wsX1_owe := by decide +kernel
  have hrow : vp_in (x * 4 + y) 16 := hl_sq h1 h2
  have hrow2 : vp_in (y * 4 + x) 16 := hl_sq h2 h1
  refine hl_ls (ls' := [(0, .ref (a 5)), (1, .int x), (2, .int y), (3, .int n)]) rfl ?_
  refine hl_aload_n h 0 dX1_owe_0 rfl ?_
  refine hl_get h hi1 hl_wc_5 rfl 1 rfl dX1_owe_1 (by decide) (by decide +kernel) ?_
  refine hl_iload_n h 1 dX1_owe_4 rfl ?_
  refine hl_iload_n h 2 dX1_owe_5 rfl ?_
  refine hl_callSiD h (st := [.ref (a 24)]) (c_X1_row l D cI cZ cJ a g x y) (va_cwS 2 h.2.2.2.2.1 gX1_owe_X1_row rfl rfl rfl (by decide +kernel) ⟨Nat.le_of_ble_eq_true rfl, Nat.le_of_ble_eq_true rfl⟩) dX1_owe_6 rfl (Nat.le_of_ble_eq_true rfl) ⟨Nat.le_of_ble_eq_true rfl, Nat.le_of_ble_eq_true rfl⟩ rfl ?_
  refine hl_dup2 h dX1_owe_9 rfl rfl ?_
  refine hl_ild h hl_wc_24 0 rfl dX1_owe_10 (by with_reducible assumption) ?_
  refine hl_iload_n h 3 dX1_owe_11 rfl ?_
  refine hl_iadd h dX1_owe_12 ?_
  refine hl_ist h hl_wc_24 0 rfl dX1_owe_13 (by with_reducible assumption) hl_wc_t22 ?_
  refine hl_nmC (fun g4 e5 => ?_)
  refine hl_aload_n h 0 dX1_owe_14 rfl ?_
  refine hl_get h hi1 hl_wc_5 rfl 1 rfl dX1_owe_15 (by decide) (by decide +kernel) ?_
  refine hl_iload_n h 2 dX1_owe_18 rfl ?_
  refine hl_iload_n h 1 dX1_owe_19 rfl ?_
  refine hl_callSiD h (st := [.ref (a 24)]) (c_X1_row l D cI cZ cJ a g4 y x) (va_cwS 2 h.2.2.2.2.1 gX1_owe_X1_row rfl rfl rfl (by decide +kernel) ⟨Nat.le_of_ble_eq_true rfl, Nat.le_of_ble_eq_true rfl⟩) dX1_owe_20 rfl (Nat.le_of_ble_eq_true rfl) ⟨Nat.le_of_ble_eq_true rfl, Nat.le_of_ble_eq_true rfl⟩ rfl ?_
  refine hl_dup2 h dX1_owe_23 rfl rfl ?_
  refine hl_ild h hl_wc_24 0 rfl dX1_owe_24 (by with_reducible assumption) ?_
  refine hl_iload_n h 3 dX1_owe_25 rfl ?_
  refine hl_isub h dX1_owe_26 ?_
  refine hl_ist h hl_wc_24 0 rfl dX1_owe_27 (by with_reducible assumption) hl_wc_t22 ?_
  refine hl_nmC (fun g9 e10 => ?_)
  exact hend dX1_owe_28 (by
    subst e10; subst e5
    exact (congrArg (hl_WC a cI cZ) (by rfl)))

set_option maxHeartbeats 4000000 in
set_option maxRecDepth 100000 in
theorem c_X1_between (l : Launch) (D : va_G) (cI cZ cJ : ClassId) (a : Nat → Nat) (g : Nat → Nat → Int32) (x y : Int32) (h1 : vp_in x 4) (h2 : vp_in y 4) : hl_KI D (hl_ty cI cZ cJ) l yX1_between wsX1_between ({ frames := 1, cells := 0, slots := 0, locals := 21 } : Room) 0 0 [.ref (a 5), .int x, .int y] (hl_WC a cI cZ g) (fun r w => r = r_X1_between g x y ∧ w = hl_WC a cI cZ g) := by
  refine hl_KI_of (cc := cX1_between) (maxL := 3) .int rfl (fun _ => Or.inr rfl) (by decide) rfl (Nat.le_of_ble_eq_true rfl) ?_
  intro p e s m args below meth c A Q h hend
  have hi1 : ∀ z ∈ wsX10, z ∈ wsX1_between := by decide +kernel
  have hrow : vp_in (x * 4 + y) 16 := hl_sq h1 h2
  have hrow2 : vp_in (y * 4 + x) 16 := hl_sq h2 h1
  refine hl_ls (ls' := [(0, .ref (a 5)), (1, .int x), (2, .int y)]) rfl ?_
  refine hl_iconst h 0 dX1_between_0 (by decide) ?_
  refine hl_aload_n h 0 dX1_between_1 rfl ?_
  refine hl_get h hi1 hl_wc_5 rfl 1 rfl dX1_between_2 (by decide) (by decide +kernel) ?_
  refine hl_iload_n h 1 dX1_between_5 rfl ?_
  refine hl_iload_n h 2 dX1_between_6 rfl ?_
  refine hl_callSiD h (st := [.ref (a 24), .int 0]) (c_X1_row l D cI cZ cJ a g x y) (va_cwS 2 h.2.2.2.2.1 gX1_between_X1_row rfl rfl rfl (by decide +kernel) ⟨Nat.le_of_ble_eq_true rfl, Nat.le_of_ble_eq_true rfl⟩) dX1_between_7 rfl (Nat.le_of_ble_eq_true rfl) ⟨Nat.le_of_ble_eq_true rfl, Nat.le_of_ble_eq_true rfl⟩ rfl ?_
  refine hl_ild h hl_wc_24 0 rfl dX1_between_10 (by with_reducible assumption) ?_
  refine hl_max h dX1_between_11 (by decide +kernel) (by decide +kernel) (by decide +kernel) (by decide +kernel) (Nat.le_of_ble_eq_true rfl) (Nat.le_of_ble_eq_true rfl) (Nat.le_of_ble_eq_true rfl) (Nat.le_of_ble_eq_true rfl) ?_
  exact hend dX1_between_14 (fun h9 => nomatch h9) (by
    exact ⟨rfl, rfl⟩)

set_option maxHeartbeats 4000000 in
set_option maxRecDepth 100000 in
theorem c_X1_pay (l : Launch) (D : va_G) (cI cZ cJ : ClassId) (a : Nat → Nat) (g : Nat → Nat → Int32) (x y : Int32) (h1 : vp_in x 4) (h2 : vp_in y 4) : hl_KI D (hl_ty cI cZ cJ) l yX1_pay wsX1_pay ({ frames := 2, cells := 0, slots := 0, locals := 44 } : Room) 0 0 [.ref (a 5), .int x, .int y] (hl_WC a cI cZ g) (fun r w => r = r_X1_between g x y ∧ w = hl_WC a cI cZ (f_X1_pay g x y)) := by
  refine hl_KI_of (cc := cX1_pay) (maxL := 4) .int rfl (fun _ => Or.inr rfl) (by decide) rfl (Nat.le_of_ble_eq_true rfl) ?_
  intro p e s m args below meth c A Q h hend
  have hi1 : ∀ z ∈ wsX10, z ∈ wsX1_pay := by decide +kernel
  refine hl_ls (ls' := [(0, .ref (a 5)), (1, .int x), (2, .int y)]) rfl ?_
  refine hl_aload_n h 0 dX1_pay_0 rfl ?_
  refine hl_iload_n h 1 dX1_pay_1 rfl ?_
  refine hl_iload_n h 2 dX1_pay_2 rfl ?_
  refine hl_callViD h (st := []) (c_X1_between l D cI cZ cJ a g x y (by with_reducible assumption) (by with_reducible assumption)) (cwV 2 h.2.2.2.2.1 gX1_pay_X1_between rfl rfl rfl (by decide +kernel) ⟨Nat.le_of_ble_eq_true rfl, Nat.le_of_ble_eq_true rfl⟩) hl_wc_5 rfl dX1_pay_3 rfl (Nat.le_of_ble_eq_true rfl) ⟨Nat.le_of_ble_eq_true rfl, Nat.le_of_ble_eq_true rfl⟩ rfl ?_
  refine hl_istore_n h [(3, .int (r_X1_between g x y)), (0, .ref (a 5)), (1, .int x), (2, .int y)] dX1_pay_6 (by decide) rfl ?_
  refine hl_aload_n h 1 dX1_pay_7 rfl ?_
  refine hl_get h hi1 hl_wc_5 rfl 0 rfl dX1_pay_8 (by decide) (by decide +kernel) ?_
  refine hl_iload_n h 2 dX1_pay_11 rfl ?_
  refine hl_dup2 h dX1_pay_12 rfl rfl ?_
  refine hl_ild h hl_wc_23 0 rfl dX1_pay_13 (by with_reducible assumption) ?_
  refine hl_iload_n h 0 dX1_pay_14 rfl ?_
  refine hl_isub h dX1_pay_15 ?_
  refine hl_ist h hl_wc_23 0 rfl dX1_pay_16 (by with_reducible assumption) hl_wc_t21 ?_
  refine hl_nmC (fun g4 e5 => ?_)
  refine hl_aload_n h 1 dX1_pay_17 rfl ?_
  refine hl_get h hi1 hl_wc_5 rfl 0 rfl dX1_pay_18 (by decide) (by decide +kernel) ?_
  refine hl_iload_n h 3 dX1_pay_21 rfl ?_
  refine hl_dup2 h dX1_pay_22 rfl rfl ?_
  refine hl_ild h hl_wc_23 0 rfl dX1_pay_23 (by with_reducible assumption) ?_
  refine hl_iload_n h 0 dX1_pay_24 rfl ?_
  refine hl_iadd h dX1_pay_25 ?_
  refine hl_ist h hl_wc_23 0 rfl dX1_pay_26 (by with_reducible assumption) hl_wc_t21 ?_
  refine hl_nmC (fun g6 e7 => ?_)
  refine hl_aload_n h 1 dX1_pay_27 rfl ?_
  refine hl_iload_n h 3 dX1_pay_28 rfl ?_
  refine hl_iload_n h 2 dX1_pay_29 rfl ?_
  refine hl_iload_n h 0 dX1_pay_30 rfl ?_
  refine hl_callVvD h (st := []) (c_X1_owe l D cI cZ cJ a g6 y x (r_X1_between g x y) (by with_reducible assumption) (by with_reducible assumption)) (cwV 3 h.2.2.2.2.1 gX1_pay_X1_owe rfl rfl rfl (by decide +kernel) ⟨Nat.le_of_ble_eq_true rfl, Nat.le_of_ble_eq_true rfl⟩) hl_wc_5 rfl dX1_pay_31 rfl (Nat.le_of_ble_eq_true rfl) ⟨Nat.le_of_ble_eq_true rfl, Nat.le_of_ble_eq_true rfl⟩ rfl ?_
  refine hl_nmC (fun g11 e12 => ?_)
  refine hl_iload_n h 0 dX1_pay_34 rfl ?_
  exact hend dX1_pay_35 (fun h9 => nomatch h9) (by
    subst e12; subst e7; subst e5
    exact ⟨by rfl, (congrArg (hl_WC a cI cZ) (by rfl))⟩)

set_option maxHeartbeats 4000000 in
set_option maxRecDepth 100000 in
theorem c_X1_payAll (l : Launch) (D : va_G) (cI cZ cJ : ClassId) (a : Nat → Nat) (g : Nat → Nat → Int32) : hl_KI D (hl_ty cI cZ cJ) l yX1_payAll wsX1_payAll ({ frames := 3, cells := 0, slots := 0, locals := 67 } : Room) 0 0 [.ref (a 5)] (hl_WC a cI cZ g) (fun r w => r = (hl_it b_X1_payAll 0 4 (g, 0)).2 ∧ w = hl_WC a cI cZ ((hl_it b_X1_payAll 0 4 (g, 0)).1)) := by
  refine hl_KI_of (cc := cX1_payAll) (maxL := 4) .int rfl (fun _ => Or.inr rfl) (by decide) rfl (Nat.le_of_ble_eq_true rfl) ?_
  intro p e s m args below meth c A Q h hend
  refine hl_ls (ls' := [(0, .ref (a 5))]) rfl ?_
  refine hl_iconst h 0 dX1_payAll_0 (by decide) ?_
  refine hl_istore_n h [(1, .int 0), (0, .ref (a 5))] dX1_payAll_1 (by decide) rfl ?_
  refine hl_iconst h 0 dX1_payAll_2 (by decide) ?_
  refine hl_istore_n h [(2, .int 0), (1, .int 0), (0, .ref (a 5))] dX1_payAll_3 (by decide) rfl ?_
  have lp4 : ∀ (n : Nat) (i : Nat) (z : (Nat → Nat → Int32) × Int32), i + n = 4 → hl_it b_X1_payAll i n z = hl_it b_X1_payAll 0 4 (g, 0) →  hl_X p l e ({ frames := 3, cells := 0, slots := 0, locals := 67 } : Room) s m args below meth c 4 D A 0 0 Q (hl_WC a cI cZ z.1) 4 [(0, .ref (a 5)), (1, .int z.2), (2, .int (nI i))] [] := by
    intro n
    induction n with
    | zero =>
      intro i z hi hv
      refine hl_iload_n h 2 dX1_payAll_4 rfl ?_
      refine hl_iconst h 4 dX1_payAll_5 (by decide) ?_
      refine hl_icmp_ge_T h 37 dX1_payAll_6 (by decide) (by rw [show i = 4 by omega]; decide) ?_
      refine hl_iload_n h 1 dX1_payAll_37 rfl ?_
      exact hend dX1_payAll_38 (fun h9 => nomatch h9) (by
        exact ⟨congrArg Prod.snd hv, congrArg (fun q => hl_WC a cI cZ q.1) hv⟩)
    | succ n ih =>
      intro i z hi hv
      have hvi : vp_in (nI i) 4 := vp_in_nI (by omega) (by decide)
      refine hl_iload_n h 2 dX1_payAll_4 rfl ?_
      refine hl_iconst h 4 dX1_payAll_5 (by decide) ?_
      refine hl_icmp_ge_F h 37 dX1_payAll_6 (by decide) (nI_ge (b := 4) (by omega) (by decide)) ?_
      refine hl_iconst h 0 dX1_payAll_9 (by decide) ?_
      refine hl_istore_n h [(3, .int 0), (0, .ref (a 5)), (1, .int z.2), (2, .int (nI i))] dX1_payAll_10 (by decide) rfl ?_
      have lp11 : ∀ (m2 : Nat) (j : Nat) (v : (Nat → Nat → Int32) × Int32), j + m2 = 4 → hl_it (b_X1_payIn i) j m2 v = b_X1_payAll i z →  hl_X p l e ({ frames := 3, cells := 0, slots := 0, locals := 67 } : Room) s m args below meth c 4 D A 0 0 Q (hl_WC a cI cZ v.1) 11 [(0, .ref (a 5)), (1, .int v.2), (2, .int (nI i)), (3, .int (nI j))] [] := by
        intro m2
        induction m2 with
        | zero =>
          intro j v hj hw
          refine hl_iload_n h 3 dX1_payAll_11 rfl ?_
          refine hl_iconst h 4 dX1_payAll_12 (by decide) ?_
          refine hl_icmp_ge_T h 31 dX1_payAll_13 (by decide) (by rw [show j = 4 by omega]; decide) ?_
          refine hl_iinc h 2 (nI (i + 1)) [(2, .int (nI (i + 1))), (0, .ref (a 5)), (1, .int v.2), (3, .int (nI j))] dX1_payAll_31 rfl (hl_inc i) (by decide) rfl ?_
          refine hl_goto h 4 dX1_payAll_34 (by decide) ?_
          refine hl_lsub [1, 2, 0] rfl ?_
          exact ih (i + 1) v (by omega) (by rw [← hv, hl_it_s, ← hw]; rfl)
        | succ m2 ih2 =>
          intro j v hj hw
          have hvj : vp_in (nI j) 4 := vp_in_nI (by omega) (by decide)
          refine hl_iload_n h 3 dX1_payAll_11 rfl ?_
          refine hl_iconst h 4 dX1_payAll_12 (by decide) ?_
          refine hl_icmp_ge_F h 31 dX1_payAll_13 (by decide) (nI_ge (b := 4) (by omega) (by decide)) ?_
          refine hl_iload_n h 1 dX1_payAll_16 rfl ?_
          refine hl_aload_n h 0 dX1_payAll_17 rfl ?_
          refine hl_iload_n h 2 dX1_payAll_18 rfl ?_
          refine hl_iload_n h 3 dX1_payAll_19 rfl ?_
          refine hl_callViD h (st := [.int v.2]) (c_X1_pay l D cI cZ cJ a v.1 (nI i) (nI j) (by with_reducible assumption) (by with_reducible assumption)) (cwV 2 h.2.2.2.2.1 gX1_payAll_X1_pay rfl rfl rfl (by decide +kernel) ⟨Nat.le_of_ble_eq_true rfl, Nat.le_of_ble_eq_true rfl⟩) hl_wc_5 rfl dX1_payAll_20 rfl (Nat.le_of_ble_eq_true rfl) ⟨Nat.le_of_ble_eq_true rfl, Nat.le_of_ble_eq_true rfl⟩ rfl ?_
          refine hl_nmC (fun g4 e5 => ?_)
          refine hl_iadd h dX1_payAll_23 ?_
          refine hl_istore_n h [(1, .int (v.2 + (r_X1_between v.1 (nI i) (nI j)))), (0, .ref (a 5)), (2, .int (nI i)), (3, .int (nI j))] dX1_payAll_24 (by decide) rfl ?_
          refine hl_iinc h 3 (nI (j + 1)) [(3, .int (nI (j + 1))), (1, .int (v.2 + (r_X1_between v.1 (nI i) (nI j)))), (0, .ref (a 5)), (2, .int (nI i))] dX1_payAll_25 rfl (hl_inc j) (by decide) rfl ?_
          refine hl_goto h 11 dX1_payAll_28 (by decide) ?_
          refine hl_lsub [2, 1, 3, 0] rfl ?_
          subst e5
          exact ih2 (j + 1) (b_X1_payIn i j v) (by omega) (by rw [← hw, hl_it_s])
      refine hl_lsub [1, 2, 3, 0] rfl ?_
      exact lp11 4 0 z rfl rfl
  refine hl_lsub [2, 1, 0] rfl ?_
  exact lp4 4 0 (g, 0) rfl rfl
end
section
/-! Methods that throw: what they need of the machine's tables (hl_Z), their contract (hl_KT: it throws E, the world stays), and the law's wrappers, which catch (hl_KW) -/
abbrev hl_EI : String := "java/lang/IndexOutOfBoundsException"
abbrev hl_EA : String := "java/lang/IllegalArgumentException"
abbrev hl_ES : String := "java/lang/IllegalStateException"
abbrev hl_nm : List String := ["java/lang/RuntimeException", "java/lang/Exception"]
def hl_tx : List (Nat × String) := [(176, "no such inn"), (179, "no such kind"), (181, "no such guest"), (183, "no such booking"), (187, "out of range"), (84, "no more bookings are taken"), (103, "not the night of the booking, or its guest has come"), (125, "the guest does not have so many points"), (130, "the last night does not end")]
abbrev hl_dc : List Cond := [Cond.declares (Bundle.initS "java/lang/RuntimeException"), Cond.declares (Bundle.initS "java/lang/Exception"), Cond.declares (Bundle.initS Bundle.tN)]
def hl_Z (A : Nat → Prop) (U : State) (H : Heap) : Prop :=
  vx_Zq Bundle.tN "UNASSIGNED_STACK" Bundle.steD A U H ∧ vx_Zq Bundle.tN "SUPPRESSED_SENTINEL" Bundle.listD A U H ∧ (va_Nw (.castable hl_EI hl_EI) U ∧ va_Nw (.castable hl_EA hl_EA) U ∧ va_Nw (.castable hl_ES hl_ES) U) ∧ (va_Nc hl_EA hl_EI U ∧ va_Nc hl_ES hl_EI U ∧ va_Nc hl_ES hl_EA U) ∧ (va_Nw (.declares (Bundle.initS "java/lang/RuntimeException")) U ∧ va_Nw (.declares (Bundle.initS "java/lang/Exception")) U ∧ va_Nw (.declares (Bundle.initS Bundle.tN)) U) ∧ ∀ q ∈ hl_tx, ∃ sa : Nat, vk_R RX5 q.1 q.2 sa U
theorem hl_Z.go {A B : Nat → Prop} {s U : State} {H0 H : Heap} (hz : hl_Z A s H0) (hW : s.WarmedH U.vm) (hk : ∀ q : Nat, q < H0.size → ¬ A q → H[q]? = H0[q]?) (hAB : ∀ q, B q → A q) : hl_Z B U H := by
  obtain ⟨h1, h2, ⟨h3, h4, h5⟩, ⟨h6, h7, h8⟩, ⟨h10, h11, h12⟩, h9⟩ := hz
  refine ⟨vx_Zq.narrow (vx_Zq.moved hW.alike (h1.kept hk)) hAB, vx_Zq.narrow (vx_Zq.moved hW.alike (h2.kept hk)) hAB, ⟨va_Nw.warmC hW h3, va_Nw.warmC hW h4, va_Nw.warmC hW h5⟩, ⟨va_Nc.moved hW.alike h6, va_Nc.moved hW.alike h7, va_Nc.moved hW.alike h8⟩, ⟨va_Nw.warmD hW h10, va_Nw.warmD hW h11, va_Nw.warmD hW h12⟩, fun q hq => ?_⟩
  obtain ⟨sa, h⟩ := h9 q hq
  exact ⟨sa, vk_R.warm hW h⟩
def hl_PreZ (D : va_G) (tys : List (ClassId × FieldType)) (w0 : va_W) (sz : Nat) (U : State) : Prop := hl_Pre D tys w0 sz U ∧ hl_Z (va_A w0 sz) U U.heap
theorem hl_blindZ (D : va_G) (tys : List (ClassId × FieldType)) (w0 : va_W) (sz : Nat) (av : List Value) : FrameBlind (va_Pc av (hl_PreZ D tys w0 sz)) := fun a U g mk q => by
  obtain ⟨q0, ⟨q1, qP, qK, qD⟩, qZ⟩ := q
  exact ⟨q0, ⟨q1, qP, va_K.moved (u := U) (U := U.calling g mk a) (Vm.Alike.refl U.vm) qK, qD⟩, hl_Z.go (s := U) (U := U.calling g mk a) (H0 := U.heap) qZ (State.WarmedH.refl U) (fun _ _ _ => rfl) (fun _ h => h)⟩
def hl_XC (D : va_G) (tys : List (ClassId × FieldType)) (w0 : va_W) (sz : Nat) (E : String) : String → State → State → Prop := vx_X (S := Unit) (fun _ => True) (fun E' _ t => E' = E ∧ hl_B D tys w0 sz w0 t) (va_A w0 sz)
def hl_NQ : Array Value → State → Outcome → State → Prop := fun _ _ _ _ => False
def hl_KT (D : va_G) (tys : List (ClassId × FieldType)) (l : Launch) (y : MethodName) (ws : List Cond) (rm : Room) (av : List Value) (w0 : va_W) (E : String) : Prop :=
  ∀ sz : Nat, vx_Met l y ws rm (va_Pc av (hl_PreZ D tys w0 sz)) hl_NQ (hl_XC D tys w0 sz E) 1 6 (va_A w0 sz)
def hl_QT (below : List Frame) (args : Array Value) (s : State) (D : va_G) (tys : List (ClassId × FieldType)) (w0 : va_W) (E : String) : State → Prop := vx_MQ below hl_NQ (hl_XC D tys w0 s.heap.size E) args s 1 6 (va_A w0 s.heap.size)
section HLT
variable {p : Program} {l : Launch} {e : Env} {R : Room} {s : State} {m : MethodId} {args : Array Value} {below : List Frame} {meth : Method} {c : Code}
variable {cc : ByteArray} {nL : Nat} {Ts : List Cond} {own : String} {D : va_G} {tys : List (ClassId × FieldType)} {A : Nat → Prop} {cells slots : Nat} {Q : State → Prop} {w w0 : va_W} {pc : Nat} {ls : List (Nat × Value)} {st : List Value} {E : String}
theorem hl_KT_of {y : MethodName} {ws ws' : List Cond} {rm : Room} {av : List Value} {maxL : Nat} {ret : Option FieldType} (hy : plainName y.cls = true) (hw : ws = Cond.code y cc maxL ret :: ws') (hvs : (lg_sl av).length ≤ maxL)
    (body : ∀ (p : Program) (e : Env) (s : State) (m : MethodId) (args : Array Value) (below : List Frame) (meth : Method) (c : Code), hl_C p s m args c cc maxL ws y.cls D tys (va_A w0 s.heap.size) → hl_Z (va_A w0 s.heap.size) s s.heap → (∀ x ∈ c.exceptionTable.toList, False) → meth.locks = false →
      hl_X p l e rm s m args below meth c maxL D (va_A w0 s.heap.size) 0 0 (hl_QT below args s D tys w0 E) w0 0 (lv_args 0 av) []) : hl_KT D tys l y ws rm av w0 E := by
  intro sz
  refine vx_ofW (cc := cc) (maxL := maxL) (ret := ret) hy hw ?_
  intro p e s m args below meth c s₁ B hml het hv
  obtain ⟨rfl, ⟨hsz, hP, hK, hD0⟩, hz⟩ := hv
  have hlocks := B.notSynchronized
  subst hsz
  rw [lg_entry_eq]
  exact body p e s m av.toArray below meth c ⟨B.exec, B.bytes, hml, findClass_of_methodNamed B.named, atoms_spec (ws := ws) B.pre, hK, fun q h => Or.inr h⟩ hz het hlocks s.heap [] _ hP hD0.self va_S.rf (lv_entry av hvs)
theorem hl_throw (h : hl_C p s m args c cc nL Ts own D tys (va_A w0 s.heap.size)) (hz : hl_Z (va_A w0 s.heap.size) s s.heap) (het : ∀ x ∈ c.exceptionTable.toList, False) (hlocks : meth.locks = false) (hst : l.stackTraces = false) {ik is ic : Nat} {text : String} (hcs : va_Nw (.castable E E) s) (hsa : ∃ sa : Nat, vk_R own is text sa s) (hfit : Bundle.fit E = true)
    (hg2 : ∀ z ∈ (vx_atS own ic E hl_nm).filter (fun z => !goodWord z), z ∈ Cond.castable E E :: hl_dc) (hgood : ∀ z ∈ Cond.classLink own ik E :: Cond.initialized E :: vx_atS own ic E hl_nm, vx_ot z = true)
    (d0 : decode cc pc = .ok (.new ik, 3)) (d3 : decode cc (pc + 3) = .ok (.dup, 1)) (d4 : decode cc (pc + 4) = .ok (.ldc is, 2)) (d6 : decode cc (pc + 6) = .ok (.invokespecial ic, 3)) (d9 : decode cc (pc + 9) = .ok (.athrow, 1))
    (hk : Cond.classLink own ik E ∈ Ts) (hini : Cond.initialized E ∈ Ts) (hg1 : ∀ z ∈ (vx_atS own ic E hl_nm).filter goodWord, z ∈ Ts)
    (hRf : 5 < R.frames) (hRl : (st.map fun v => v.category).sum + 82 ≤ R.locals) (hRc : 1 ≤ R.cells) (hRs : 6 ≤ R.slots) :
    hl_X p l e R s m args below meth c nL D (va_A w0 s.heap.size) 0 0 (hl_QT below args s D tys w0 E) w0 pc ls st := by
  intro H locs la hP hD hS hl
  obtain ⟨sa, hsa⟩ := hsa
  have hat : ∀ z ∈ vx_atS own ic E hl_nm, z.before args s = true := vx_hat (B := Cond.castable E E :: hl_dc) (fun z h9 => h.2.2.2.2.1 z (hg1 z h9)) hg2 (vx_c (va_Nw.use rfl hcs) (vx_c (va_Nw.use rfl hz.2.2.2.2.1.1) (vx_c (va_Nw.use rfl hz.2.2.2.2.1.2.1) (vx_c (va_Nw.use rfl hz.2.2.2.2.1.2.2) vx_n))))
  refine vx_throwS (names := hl_nm) h.1 h.2.1 hst h.2.2.2.1 hfit (by decide +kernel) (h.2.2.2.2.1 _ hk) (h.2.2.2.2.1 _ hini) hsa hat hgood hz.1 hz.2.1 hS (hl.1.trans h.2.2.1.symm) d0 d3 d4 d6 d9 (fun x hx => absurd (het x hx) id) hRf hRl (by omega) (by omega) hlocks ?_ hS.2.2 (by omega) (by omega)
  intro t hvm hsz hkeep
  refine ⟨(), trivial, ⟨rfl, hP.kept (fun k q hq => hkeep q.1 (vx_lt hP hq)), va_K.moved hvm h.2.2.2.2.2.1, hD⟩, Nat.le_trans hS.1 hsz, fun q h1 h2 => ?_⟩
  rw [hkeep q (Nat.lt_of_lt_of_le h1 hS.1)]
  exact hS.2.1 q h1 h2
/-- a call that throws: on to where the throw is seen -/
theorem hl_tgo {H : Heap} {locs : List Loc} {mc ms : Nat} {la : Array Slot} {st0 rest : List Value} {AX : Nat → Prop} {BX : String → Unit → State → Prop} {free : Addr → Prop} (hr : vx_Run p l e R s m args below meth c H locs cells slots mc ms (F0 m pc la st0) rest (fun _ _ _ => False) (vx_X (S := Unit) (fun _ => True) BX AX) free) (hS : va_S A s.heap H locs) (hf : ∀ q, free q → A q) (hAX : ∀ q, q < H.size → AX q → A q)
    (kx : ∀ (E : String) (ce : Cell) (q9 : Addr) (t : State) (H1 : Heap) (locs1 : List Loc), t.heap = H1 → s.vm.Alike t.vm → BX E () t → H.size ≤ H1.size → (∀ q : Nat, q < H.size → ¬ AX q → H1[q]? = H[q]?) → va_S A s.heap H1 locs1 → H1[q9]? = some ce → ce.vm = .none → s.vm.findClass E = some ce.cls → vx_W p l e R s m args below meth c H1 locs1 (cells + mc) (slots + ms) Q (F0 m pc la rest) q9) :
    W p l e R s m args below meth c H locs cells slots Q (F0 m pc la st0) := by
  intro T hT X
  rcases hr T hT X with ⟨v, st₀, t, T', L, h0, X', hL, e1, e2, hF, st⟩ | ⟨q, st₀, t, T', L, E, ce, h0, X', hL, e1, e2, ⟨u, hp, hb, hF⟩, hce, hcv, hcl, st⟩
  · exact absurd hF id
  · obtain ⟨k1, k2, k3⟩ := vx_keep h0 e1 hS hAX hf hL hF
    obtain ⟨t2, a1, b1⟩ := kx E ce q t T'.heap (locs ++ L) e1.symm (by rw [← e2]; exact X'.warmed.alike) hb k1 k2 k3 (by rw [e1]; exact hce) hcv hcl T' rfl X'
    exact ⟨t2, st.trans a1, b1⟩
theorem hl_preZ {H : Heap} {locs : List Loc} (h : hl_C p s m args c cc nL Ts own D tys A) (hz : hl_Z A s s.heap) (hP : va_P D vwCl w H) (hD : va_D A w) (hS : va_S A s.heap H locs) (av : List Value) : ∀ U : State, U.heap = H → s.WarmedH U.vm → va_Pc av (hl_PreZ D tys w H.size) av.toArray U :=
  fun U hU hW => ⟨rfl, (hl_pre h hP hD av U hU hW).2, hl_Z.go hz hW (by rw [hU]; exact hS.2.1) (hl_fr h hD hS)⟩
/-- not caught here -/
theorem hl_tout {H H1 : Heap} {locs locs1 : List Loc} {la : Array Slot} {ce : Cell} {q9 : Addr} {t : State} {E' : String} (h : hl_C p s m args c cc nL Ts own D tys (va_A w0 s.heap.size)) (het : ∀ x ∈ c.exceptionTable.toList, False) (hlocks : meth.locks = false) (hD : va_D (va_A w0 s.heap.size) w0) (hS : va_S (va_A w0 s.heap.size) s.heap H locs)
    (ht : t.heap = H1) (hvm : s.vm.Alike t.vm) (hb : E' = E ∧ hl_B D tys w0 H.size w0 t) (hS1 : va_S (va_A w0 s.heap.size) s.heap H1 locs1) (hce : H1[q9]? = some ce) (hcv : ce.vm = .none) (hcl : s.vm.findClass E' = some ce.cls) :
    vx_W p l e R s m args below meth c H1 locs1 1 6 (hl_QT below args s D tys w0 E) (F0 m pc la st) q9 := by
  obtain ⟨rfl, hP1, hK1, hD1⟩ := hb
  rw [ht] at hP1
  refine vx_out (fun x hx => absurd (het x hx) id) hlocks hce hcv hcl ?_ hS1.2.2 (Nat.le_refl _) (Nat.le_refl _)
  intro t2 ht2 hvm2
  exact ⟨(), trivial, ⟨rfl, by rw [ht2]; exact hP1, va_K.moved hvm2 h.2.2.2.2.2.1, hD⟩, hS1.F ht2⟩
theorem hl_tcallS (h : hl_C p s m args c cc nL Ts own D tys (va_A w0 s.heap.size)) (hz : hl_Z (va_A w0 s.heap.size) s s.heap) (het : ∀ x ∈ c.exceptionTable.toList, False) (hlocks : meth.locks = false) {y : MethodName} {bytes : ByteArray} {maxL n index : Nat} {ret : Option FieldType} {ws : List Cond} {rm : Room} {As : List Value} (hM : hl_KT D tys l y ws rm As w0 E) (cw : CallB R s args own index y bytes maxL ret ws rm 1 6 n ∧ (Cond.static y).before args s = true) (hd : decode cc pc = .ok (.invokestatic index, 3)) (hn : As.length = n) (hW : (st.map fun v => v.category).sum ≤ 8) (hf : 0 + 1 ≤ R.cells ∧ 0 + 6 ≤ R.slots) {st0 : List Value} (hst : st0 = (As.reverse ++ st)) :
    hl_X p l e R s m args below meth c nL D (va_A w0 s.heap.size) 0 0 (hl_QT below args s D tys w0 E) w0 pc ls st0 := by
  subst hst
  intro H locs la hP hD hS hl
  have hF := hl_fr h hD hS
  refine hl_tgo (vx_runS (As := As) (rest := st) ⟨h.1, h.2.1, h.2.2.1, h.2.2.2.1, h.2.2.2.2.1⟩ (hM H.size) cw ⟨hl_blindZ D tys w0 H.size _, hl_preZ h hz hP hD hS _⟩ rfl hn hl.1 rfl (lv_room hW) hd hf) hS hF (fun q _ h9 => hF q h9) ?_
  intro E' ce q9 t H1 locs1 ht hvm hb hz1 hk1 hS1 hce hcv hcl
  exact hl_tout h het hlocks hD hS ht hvm hb hS1 hce hcv hcl
theorem hl_tcallV (h : hl_C p s m args c cc nL Ts own D tys (va_A w0 s.heap.size)) (hz : hl_Z (va_A w0 s.heap.size) s s.heap) (het : ∀ x ∈ c.exceptionTable.toList, False) (hlocks : meth.locks = false) {C : String} {y : MethodName} {bytes : ByteArray} {maxL n index b : Nat} {ret : Option FieldType} {ws : List Cond} {rm : Room} {As : List Value} (hM : hl_KT D tys l y ws rm (.ref b :: As) w0 E) (cw : CallW R s args own C index y bytes maxL ret ws rm 1 6 n) {q0 ci : Nat} {fs : List Value} {T : u_T} {N : Nat} (he : w0[q0]? = some (b, .inr (ci, fs))) (hc : vwCl[ci]? = some (C, T, N)) (hd : decode cc pc = .ok (.invokevirtual index, 3)) (hn : As.length = n) (hW : (st.map fun v => v.category).sum ≤ 8) (hf : 0 + 1 ≤ R.cells ∧ 0 + 6 ≤ R.slots) {st0 : List Value} (hst : st0 = (As.reverse ++ .ref b :: st)) :
    hl_X p l e R s m args below meth c nL D (va_A w0 s.heap.size) 0 0 (hl_QT below args s D tys w0 E) w0 pc ls st0 := by
  subst hst
  intro H locs la hP hD hS hl
  have hF := hl_fr h hD hS
  refine hl_tgo (vx_runV (As := As) (rest := st) ⟨h.1, h.2.1, h.2.2.1, h.2.2.2.1, h.2.2.2.2.1⟩ (hM H.size) cw ⟨hl_blindZ D tys w0 H.size _, va_recv h.2.2.2.2.2.1 hP hc he, hl_preZ h hz hP hD hS _⟩ rfl hn hl.1 rfl (lv_room hW) hd hf) hS hF (fun q _ h9 => hF q h9) ?_
  intro E' ce q9 t H1 locs1 ht hvm hb hz1 hk1 hS1 hce hcv hcl
  exact hl_tout h het hlocks hD hS ht hvm hb hS1 hce hcv hcl
end HLT
theorem hl_g2I : ∀ z ∈ (vx_atS RX5 178 hl_EI hl_nm).filter (fun z => !goodWord z), z ∈ Cond.castable hl_EI hl_EI :: hl_dc := by decide +kernel
theorem hl_g2A : ∀ z ∈ (vx_atS RX5 189 hl_EA hl_nm).filter (fun z => !goodWord z), z ∈ Cond.castable hl_EA hl_EA :: hl_dc := by decide +kernel
theorem hl_g2S : ∀ z ∈ (vx_atS RX5 86 hl_ES hl_nm).filter (fun z => !goodWord z), z ∈ Cond.castable hl_ES hl_ES :: hl_dc := by decide +kernel
theorem hl_g3I : ∀ z ∈ Cond.classLink RX5 174 hl_EI :: Cond.initialized hl_EI :: vx_atS RX5 178 hl_EI hl_nm, vx_ot z = true := by decide +kernel
theorem hl_g3A : ∀ z ∈ Cond.classLink RX5 185 hl_EA :: Cond.initialized hl_EA :: vx_atS RX5 189 hl_EA hl_nm, vx_ot z = true := by decide +kernel
theorem hl_g3S : ∀ z ∈ Cond.classLink RX5 82 hl_ES :: Cond.initialized hl_ES :: vx_atS RX5 86 hl_ES hl_nm, vx_ot z = true := by decide +kernel
/-! the law's wrappers: static, with a table of their own; they return, whatever their call does -/
def hl_NX : String → State → State → Prop := vx_X (S := Unit) (fun _ => False) (fun _ _ _ => True) (fun _ => False)
def hl_KW (D : va_G) (tys : List (ClassId × FieldType)) (l : Launch) (y : MethodName) (ws : List Cond) (rm : Room) (av : List Value) (w0 : va_W) (P : Int32 → va_W → Prop) : Prop :=
  ∀ sz : Nat, vx_Met l y ws rm (va_Pc av (hl_PreZ D tys w0 sz)) (hl_QI D tys w0 P sz) hl_NX 1 6 (va_A w0 sz)
section HLU
variable {p : Program} {l : Launch} {e : Env} {R : Room} {s : State} {m : MethodId} {args : Array Value} {below : List Frame} {meth : Method} {c : Code}
variable {cc : ByteArray} {nL : Nat} {Ts : List Cond} {own : String} {D : va_G} {tys : List (ClassId × FieldType)} {A : Nat → Prop} {cells slots : Nat} {Q : State → Prop} {w w0 : va_W} {pc : Nat} {ls : List (Nat × Value)} {st : List Value} {E : String}
theorem hl_KW_of {y : MethodName} {ws ws' : List Cond} {rm : Room} {av : List Value} {P : Int32 → va_W → Prop} {maxL : Nat} {hh : List (Nat × Nat × Nat × Nat)} (hy : plainName y.cls = true) (hw : ws = Cond.codeWith y cc maxL (some .int) hh :: ws') (hvs : (lg_sl av).length ≤ maxL)
    (body : ∀ (p : Program) (e : Env) (s : State) (m : MethodId) (args : Array Value) (below : List Frame) (meth : Method) (c : Code) (A : Nat → Prop) (Q : State → Prop), hl_C p s m args c cc maxL ws y.cls D tys A → hl_Z A s s.heap → c.exceptionTable.toList = tableOf hh →
      (∀ {v : Int32} {w : va_W} {pc : Nat} {ls : List (Nat × Value)}, decode cc pc = .ok (.ireturn, 1) → P v w → hl_X p l e rm s m args below meth c maxL D A 1 6 Q w pc ls [.int v]) →
      hl_X p l e rm s m args below meth c maxL D A 0 0 Q w0 0 (lv_args 0 av) []) : hl_KW D tys l y ws rm av w0 P := by
  intro sz
  refine vx_ofWH (cc := cc) (maxL := maxL) (ret := some .int) (hh := hh) hy hw ?_
  intro p e s m args below meth c s₁ B hml hv
  obtain ⟨rfl, ⟨hsz, hP, hK, hD0⟩, hz⟩ := hv
  have hr := B.returns
  have hlocks := B.notSynchronized
  have hts := atoms_spec (ws := ws) B.pre
  have htab := vx_table (x := y) B (hts _ (by rw [hw]; exact List.mem_cons_self))
  subst hsz
  rw [lg_entry_eq]
  refine body p e s m av.toArray below meth c (va_A w0 s.heap.size) _ ⟨B.exec, B.bytes, hml, findClass_of_methodNamed B.named, hts, hK, fun q h => Or.inr h⟩ hz htab ?_ s.heap [] _ hP hD0.self va_S.rf (lv_entry av hvs)
  intro v w pc ls hd hp H locs la hP1 hD1 hS1 hl1
  refine vx_ret ?_
  exact W.iret (v := v) B.exec B.bytes hr (fun t ht hW => ⟨⟨v, w, rfl, hp, by rw [ht]; exact hP1, va_K.moved hW.alike hK, hD1⟩, hS1.F ht⟩) hS1.2.2 hd hlocks
/-- a call that throws, caught by a row of this method's table; the world is the part wr and the callee's -/
theorem hl_tcatchV (h : hl_C p s m args c cc nL Ts own D tys A) (hz : hl_Z A s s.heap) {C : String} {y : MethodName} {bytes : ByteArray} {maxL n index b : Nat} {ret : Option FieldType} {ws : List Cond} {rm : Room} {As : List Value} {wc wr : va_W} (isC isR : List Nat) (hC : isC.map (fun i => w[i]?) = wc.map some) (hR : isR.map (fun i => w[i]?) = wr.map some) (hnC : va_nd isC = true) (hnR : va_nd isR = true) (hdis : ∀ i ∈ isR, i ∉ isC) (hM : hl_KT D tys l y ws rm (.ref b :: As) wc E) (cw : CallW R s args own C index y bytes maxL ret ws rm 1 6 n) {q0 ci : Nat} {fs : List Value} {T : u_T} {N : Nat} (he : w[q0]? = some (b, .inr (ci, fs))) (hc : vwCl[ci]? = some (C, T, N)) (hd : decode cc pc = .ok (.invokevirtual index, 3)) (hn : As.length = n) (hW : (st.map fun v => v.category).sum ≤ 8) (hf : cells + 1 ≤ R.cells ∧ slots + 6 ≤ R.slots) {st0 : List Value} (hst : st0 = (As.reverse ++ .ref b :: st))
    (pre : List ExceptionTableEntry) (x : ExceptionTableEntry) (suf : List ExceptionTableEntry) (hsplit : c.exceptionTable.toList = pre ++ x :: suf) (hpass : ∀ z ∈ pre, z.catchType ≠ 0 ∧ ∃ nm : String, Cond.classLink own z.catchType nm ∈ Ts ∧ va_Nc E nm s) (hx : covers x pc = true) (h0 : x.catchType ≠ 0) (hlink : Cond.classLink own x.catchType E ∈ Ts) (hcast : va_Nw (.castable E E) s)
    (kk : ∀ q : Nat, hl_X p l e R s m args below meth c nL D A (cells + 1) (slots + 6) Q (wr ++ wc) x.handlerPc ls [.ref q]) : hl_X p l e R s m args below meth c nL D A cells slots Q w pc ls st0 := by
  subst hst
  intro H locs la hP hD hS hl
  have hDc := hD.sub (ws' := wc) isC hnC hC
  have hPc : va_P D vwCl wc H := hl_psub hP isC hC
  have hF := hl_fr h hDc hS
  refine hl_tgo (vx_runV (As := As) (rest := st) ⟨h.1, h.2.1, h.2.2.1, h.2.2.2.1, h.2.2.2.2.1⟩ (hM H.size) cw ⟨hl_blindZ D tys wc H.size _, va_recv h.2.2.2.2.2.1 hP hc he, hl_preZ h hz hPc hDc hS _⟩ rfl hn hl.1 rfl (lv_room hW) hd hf) hS hF (fun q _ h9 => hF q h9) ?_
  intro E' ce q9 t H1 locs1 ht hvm hb hz1 hk1 hS1 hce hcv hcl
  obtain ⟨rfl, hP1, hK1, hD1⟩ := hb
  rw [ht] at hP1
  obtain ⟨hP2, hD2⟩ := va_join hP hD isC isR hC hR hnR hdis hk1 hF hP1 hD1
  refine vx_catch h.2.2.2.1 pre x suf hsplit (fun z h9 => Or.inr ⟨(hpass z h9).1, ?_⟩) hx h0 (h.2.2.2.2.1 _ hlink) (va_Nw.use rfl hcast) hce hcv hcl (kk q9 H1 locs1 la hP2 hD2 hS1 hl)
  obtain ⟨nm, z1, z2⟩ := (hpass z h9).2
  exact ⟨nm, h.2.2.2.2.1 _ z1, z2⟩
/-- the law calls a wrapper: with the part wc of its world -/
theorem hl_callW (h : hl_C p s m args c cc nL Ts own D tys A) (hz : hl_Z A s s.heap) {y : MethodName} {bytes : ByteArray} {maxL n index : Nat} {ret : Option FieldType} {hh : List (Nat × Nat × Nat × Nat)} {ws : List Cond} {rm : Room} {As : List Value} {P : Int32 → va_W → Prop} {wc wr : va_W} (isC isR : List Nat) (hC : isC.map (fun i => w[i]?) = wc.map some) (hR : isR.map (fun i => w[i]?) = wr.map some) (hnC : va_nd isC = true) (hnR : va_nd isR = true) (hdis : ∀ i ∈ isR, i ∉ isC) (hM : hl_KW D tys l y ws rm As wc P) (cw : vx_CSW R s args own index y bytes maxL ret hh ws rm 1 6 n) (hd : decode cc pc = .ok (.invokestatic index, 3)) (hn : As.length = n) (hW : (st.map fun v => v.category).sum ≤ 8) (hf : cells + 1 ≤ R.cells ∧ slots + 6 ≤ R.slots) {st0 : List Value} (hst : st0 = (As.reverse ++ st))
    (kk : ∀ (r : Int32) (w1 : va_W), P r w1 → hl_X p l e R s m args below meth c nL D A (cells + 1) (slots + 6) Q (wr ++ w1) (pc + 3) ls (.int r :: st)) : hl_X p l e R s m args below meth c nL D A cells slots Q w pc ls st0 := by
  subst hst
  intro H locs la hP hD hS hl
  have hDc := hD.sub (ws' := wc) isC hnC hC
  have hPc : va_P D vwCl wc H := hl_psub hP isC hC
  have hF := hl_fr h hDc hS
  refine vx_calli (px := fun _ : Unit => False) (BX := fun _ _ _ => True) (AX := fun _ => False) (vx_runSX (As := As) (rest := st) ⟨h.1, h.2.1, h.2.2.1, h.2.2.2.1, h.2.2.2.2.1⟩ (hM H.size) cw ⟨hl_blindZ D tys wc H.size _, hl_preZ h hz hPc hDc hS _⟩ rfl hn hl.1 rfl (lv_room hW) hd hf) hS (fun q _ h9 => hF q h9) hF ?_ ?_ ?_
  · exact fun q _ h9 => absurd h9 id
  · intro E' ce q9 u t H1 locs1 ht hvm hb
    exact absurd hb id
  · intro r u t H1 locs1 ht hvm hw hB hz1 hk1 hS1
    obtain ⟨hP1, hK1, hD1⟩ := hB
    rw [ht] at hP1
    obtain ⟨hP2, hD2⟩ := va_join hP hD isC isR hC hR hnR hdis hk1 hF hP1 hD1
    exact kk r u hw H1 locs1 la hP2 hD2 hS1 hl
end HLU
end
section
/-! What the class's own methods answer and do -/
def r_X5_distance (x y : Int32) : Int32 := if 4 - (if 0 ≤ x - y then x - y else 0 - (x - y)) < (if 0 ≤ x - y then x - y else 0 - (x - y)) then 4 - (if 0 ≤ x - y then x - y else 0 - (x - y)) else (if 0 ≤ x - y then x - y else 0 - (x - y))
def r_X5_extraOf (g : Nat → Nat → Int32) (N : Nat) (x : Int32) : Int32 := hl_it (b_X0_missedAt g x (g 23 0 - 4) (g 23 0)) 0 N 0 / 4
def r_X5_takesMore (g : Nat → Nat → Int32) (N : Nat) (x y z : Int32) : Int32 := if g 0 (x * 2 + y).toNatClampNeg + r_X5_extraOf g N x ≤ hl_it (b_X0_countFor g x y z) 0 N 0 then 0 else 1
def b_X5_findIn (g : Nat → Nat → Int32) (h k : Int32) (f : Nat) (i : Nat) (u : Int32) : Int32 :=
  if u = -1 then (if r_X5_distance h (nI i) = nI f ∧ ¬ r_X4_freeOf g (nI i) k ≤ 0 ∧ ¬ r_X2_giverFor g (nI i) = -1 then nI i else -1) else u
def b_X5_find (g : Nat → Nat → Int32) (h k : Int32) (f : Nat) (u : Int32) : Int32 := hl_it (b_X5_findIn g h k f) 0 4 u
def r_X5_findInn (g : Nat → Nat → Int32) (h k : Int32) : Int32 := hl_it (b_X5_find g h k) 0 3 (-1)
theorem hl_it_stay {α : Type} {f : Nat → α → α} {x : α} (h : ∀ i, f i x = x) : ∀ (n i : Nat), hl_it f i n x = x := by
  intro n
  induction n with
  | zero => intro i; rfl
  | succ n ih => intro i; rw [hl_it_s, h i]; exact ih (i + 1)
theorem hl_find_stayIn (g : Nat → Nat → Int32) (h k : Int32) (f : Nat) {u : Int32} (hu : ¬ u = -1) (n i : Nat) : hl_it (b_X5_findIn g h k f) i n u = u :=
  hl_it_stay (fun j => by simp [b_X5_findIn, hu]) n i
theorem hl_find_stay (g : Nat → Nat → Int32) (h k : Int32) {u : Int32} (hu : ¬ u = -1) (n i : Nat) : hl_it (b_X5_find g h k) i n u = u :=
  hl_it_stay (fun j => hl_find_stayIn g h k j hu 4 0) n i
theorem hl_nIm1 {i : Nat} (h : i < 1000000) : ¬ nI i = -1 := by
  intro e
  have h1 : (nI i).toInt = (-1 : Int32).toInt := congrArg Int32.toInt e
  rw [nI_toInt (by omega), show ((-1 : Int32).toInt) = -1 by decide] at h1
  omega
/-- who gives linen: nobody, or an inn -/
theorem hl_giver_it (g : Nat → Nat → Int32) : ∀ (n i : Nat) (u : Int32 × Int32), i + n ≤ 4 → (u.1 = -1 ∨ vp_in u.1 4) → (hl_it (b_X2_giverFor g) i n u).1 = -1 ∨ vp_in (hl_it (b_X2_giverFor g) i n u).1 4 := by
  intro n
  induction n with
  | zero => intro i u _ h; exact h
  | succ n ih =>
    intro i u hi h
    rw [hl_it_s]
    refine ih (i + 1) _ (by omega) ?_
    unfold b_X2_giverFor
    by_cases hc : g 3 i ≤ u.2
    · rw [if_pos hc]; exact h
    · rw [if_neg hc]; exact Or.inr (vp_in_nI (by omega) (by decide))
theorem hl_giver_in (g : Nat → Nat → Int32) {x : Int32} (hx : vp_in x 4) : r_X2_giverFor g x = -1 ∨ vp_in (r_X2_giverFor g x) 4 := by
  unfold r_X2_giverFor
  by_cases hc : g 3 x.toNatClampNeg ≤ 0
  · rw [if_pos hc]; exact hl_giver_it g 4 0 (-1, 0) (by omega) (Or.inl rfl)
  · rw [if_neg hc]; exact Or.inr hx
theorem hl_find_it (g : Nat → Nat → Int32) (h k : Int32) (f : Nat) : ∀ (n i : Nat) (u : Int32), i + n ≤ 4 → (u = -1 ∨ vp_in u 4) → hl_it (b_X5_findIn g h k f) i n u = -1 ∨ vp_in (hl_it (b_X5_findIn g h k f) i n u) 4 := by
  intro n
  induction n with
  | zero => intro i u _ h; exact h
  | succ n ih =>
    intro i u hi hu
    rw [hl_it_s]
    refine ih (i + 1) _ (by omega) ?_
    unfold b_X5_findIn
    by_cases hc : u = -1
    · rw [if_pos hc]
      split
      · exact Or.inr (vp_in_nI (by omega) (by decide))
      · exact Or.inl rfl
    · rw [if_neg hc]; exact hu
theorem hl_find_it2 (g : Nat → Nat → Int32) (h k : Int32) : ∀ (n i : Nat) (u : Int32), (u = -1 ∨ vp_in u 4) → hl_it (b_X5_find g h k) i n u = -1 ∨ vp_in (hl_it (b_X5_find g h k) i n u) 4 := by
  intro n
  induction n with
  | zero => intro i u h; exact h
  | succ n ih =>
    intro i u hu
    rw [hl_it_s]
    exact ih (i + 1) _ (hl_find_it g h k i 4 0 u (by omega) hu)
theorem hl_find_in (g : Nat → Nat → Int32) (h k : Int32) : r_X5_findInn g h k = -1 ∨ vp_in (r_X5_findInn g h k) 4 := hl_find_it2 g h k 3 0 (-1) (Or.inl rfl)
def f_X5_layLinen (g : Nat → Nat → Int32) (x : Int32) : Nat → Nat → Int32 :=
  if r_X2_giverFor g x = -1 then g else
    f_X2_take (if r_X2_giverFor g x = x then g else f_X1_owe g x (r_X2_giverFor g x) (1 + g 9 0)) x (r_X2_giverFor g x)
def f_X5_putUp (g : Nat → Nat → Int32) (x y : Int32) : Nat → Nat → Int32 :=
  let hm := g 11 x.toNatClampNeg
  let kd := g 12 x.toNatClampNeg
  let ph := g 1 (y * 2 + kd).toNatClampNeg
  let g1 := f_X1_receive g hm (g 1 (hm * 2 + kd).toNatClampNeg)
  let g2 := if y = hm then g1 else f_X1_owe g1 hm y ph
  let g3 := f_X5_layLinen g2 y
  let g4 := f_X4_addSleeper g3 y kd
  f_X3_add g4 (g4 10 x.toNatClampNeg) y (ph / 10)
def b_X5_burn (x y : Int32) (k : Nat) (z : (Nat → Nat → Int32) × Int32) : (Nat → Nat → Int32) × Int32 :=
  if z.2 ≤ 0 then z else
    let bt := r_X3_takeFrom z.1 (nI k) x z.2
    let z1 := f_X3_takeFrom z.1 (nI k) x z.2
    (if z1 18 k = y then z1 else f_X1_owe z1 (z1 18 k) y bt, z.2 - bt)
def f_X5_burnEarliest (g : Nat → Nat → Int32) (M : Nat) (x y n : Int32) : Nat → Nat → Int32 := (hl_it (b_X5_burn x y) 0 M (g, n)).1
def f_X5_come (g : Nat → Nat → Int32) (x : Int32) : Nat → Nat → Int32 :=
  let v := r_X5_findInn g (g 11 x.toNatClampNeg) (g 12 x.toNatClampNeg)
  let g1 := f_X0_arrive g x v
  if v = -1 then g1 else f_X5_putUp g1 x v
def f_X5_night (g : Nat → Nat → Int32) : Nat → Nat → Int32 :=
  let g2 := f_X2_endNight (f_X4_endNight g)
  hl_su g2 23 (fun _ => g2 23 0 + 1)
def hl_ok (g : Nat → Nat → Int32) (N M : Nat) : Prop := N ≤ 80 ∧ g 16 0 = nI N ∧ M ≤ 80 ∧ g 20 0 = nI M ∧ (∀ k, k < N → vp_in (g 11 k) 4 ∧ vp_in (g 12 k) 2) ∧ (∀ k, k < M → vp_in (g 18 k) 4) ∧ (g 8 0 = 0 ∨ g 8 0 = 1)
/-! which places a step leaves as they are -/
theorem fr_X1_receive (g : Nat → Nat → Int32) (x n : Int32) {k : Nat} (h : k ≠ 21) : f_X1_receive g x n k = g k := hl_su_ne _ _ h
theorem fr_X1_owe (g : Nat → Nat → Int32) (x y n : Int32) {k : Nat} (h : k ≠ 22) : f_X1_owe g x y n k = g k := by
  simp only [f_X1_owe, hl_su_ne _ _ h]
theorem fr_X2_take (g : Nat → Nat → Int32) (x y : Int32) {k : Nat} (h : k ≠ 3) (h2 : k ≠ 4) (h3 : k ≠ 9) : f_X2_take g x y k = g k := by
  unfold f_X2_take
  by_cases hc : y = x
  · simp only [if_pos hc, hl_su_ne _ _ h, hl_su_ne _ _ h2]
  · simp only [if_neg hc, hl_su_ne _ _ h, hl_su_ne _ _ h2, hl_su_ne _ _ h3]
theorem fr_X4_addSleeper (g : Nat → Nat → Int32) (x y : Int32) {k : Nat} (h : k ≠ 2) : f_X4_addSleeper g x y k = g k := hl_su_ne _ _ h
theorem fr_X5_layLinen (g : Nat → Nat → Int32) (x : Int32) {k : Nat} (h : k ≠ 3) (h2 : k ≠ 4) (h3 : k ≠ 9) (h4 : k ≠ 22) : f_X5_layLinen g x k = g k := by
  unfold f_X5_layLinen
  by_cases hc : r_X2_giverFor g x = -1
  · rw [if_pos hc]
  · rw [if_neg hc, fr_X2_take _ _ _ h h2 h3]
    by_cases hd : r_X2_giverFor g x = x
    · rw [if_pos hd]
    · rw [if_neg hd, fr_X1_owe _ _ _ _ h4]
theorem fr_X0_arrive (g : Nat → Nat → Int32) (x y : Int32) {k : Nat} (h : k ≠ 14) (h2 : k ≠ 15) : f_X0_arrive g x y k = g k := by
  simp only [f_X0_arrive, hl_su_ne _ _ h, hl_su_ne _ _ h2]
theorem fr_X3_takeFrom (g : Nat → Nat → Int32) (x y n : Int32) {k : Nat} (h : k ≠ 19) : f_X3_takeFrom g x y n k = g k := by
  unfold f_X3_takeFrom
  split
  · exact hl_su_ne _ _ h
  · rfl
theorem fr_X5_burn (x y : Int32) (i : Nat) (z : (Nat → Nat → Int32) × Int32) {k : Nat} (h : k ≠ 19) (h2 : k ≠ 22) : (b_X5_burn x y i z).1 k = z.1 k := by
  unfold b_X5_burn
  by_cases hc : z.2 ≤ 0
  · rw [if_pos hc]
  · rw [if_neg hc]
    show (if f_X3_takeFrom z.1 (nI i) x z.2 18 i = y then f_X3_takeFrom z.1 (nI i) x z.2 else _) k = z.1 k
    split
    · exact fr_X3_takeFrom _ _ _ _ h
    · rw [fr_X1_owe _ _ _ _ h2, fr_X3_takeFrom _ _ _ _ h]
theorem fr_X5_burnIt (x y : Int32) {k : Nat} (h : k ≠ 19) (h2 : k ≠ 22) : ∀ (n i : Nat) (z : (Nat → Nat → Int32) × Int32), (hl_it (b_X5_burn x y) i n z).1 k = z.1 k := by
  intro n
  induction n with
  | zero => intro i z; rfl
  | succ n ih => intro i z; rw [hl_it_s, ih, fr_X5_burn x y i z h h2]
theorem hl_burn_stay (x y : Int32) {z : (Nat → Nat → Int32) × Int32} (hz : z.2 ≤ 0) (n i : Nat) : hl_it (b_X5_burn x y) i n z = z := hl_it_stay (fun j => by unfold b_X5_burn; rw [if_pos hz]) n i
end
section
set_option maxHeartbeats 4000000 in
set_option maxRecDepth 100000 in
theorem c_X5_checkInn (l : Launch) (D : va_G) (cI cZ cJ : ClassId) (a : Nat → Nat) (g : Nat → Nat → Int32) (x : Int32) (h1 : vp_in x 4) : hl_KV D (hl_ty cI cZ cJ) l yX5_checkInn wsX5_checkInn ({ frames := 0, cells := 0, slots := 0, locals := 0 } : Room) 0 0 [.int x] (hl_WC a cI cZ g) (fun w => w = hl_WC a cI cZ g) := by
  refine hl_KV_of (cc := cX5_checkInn) (maxL := 1) (by decide) rfl (Nat.le_of_ble_eq_true rfl) ?_
  intro p e s m args below meth c A Q h hnm hend
  refine hl_ls (ls' := [(0, .int x)]) rfl ?_
  refine hl_iload_n h 0 dX5_checkInn_0 rfl ?_
  refine hl_if_lt_F h 9 dX5_checkInn_1 (by decide) (hl_in0 h1) ?_
  refine hl_iload_n h 0 dX5_checkInn_4 rfl ?_
  refine hl_iconst h 4 dX5_checkInn_5 (by decide) ?_
  refine hl_icmp_lt_T h 19 dX5_checkInn_6 (by decide) (hl_in1 4 rfl h1) ?_
  exact hend dX5_checkInn_19 (by
    exact (congrArg (hl_WC a cI cZ) (by rfl)))

set_option maxHeartbeats 4000000 in
set_option maxRecDepth 100000 in
theorem c_X5_checkKind (l : Launch) (D : va_G) (cI cZ cJ : ClassId) (a : Nat → Nat) (g : Nat → Nat → Int32) (x : Int32) (h1 : vp_in x 2) : hl_KV D (hl_ty cI cZ cJ) l yX5_checkKind wsX5_checkKind ({ frames := 0, cells := 0, slots := 0, locals := 0 } : Room) 0 0 [.int x] (hl_WC a cI cZ g) (fun w => w = hl_WC a cI cZ g) := by
  refine hl_KV_of (cc := cX5_checkKind) (maxL := 1) (by decide) rfl (Nat.le_of_ble_eq_true rfl) ?_
  intro p e s m args below meth c A Q h hnm hend
  refine hl_ls (ls' := [(0, .int x)]) rfl ?_
  refine hl_iload_n h 0 dX5_checkKind_0 rfl ?_
  refine hl_if_lt_F h 9 dX5_checkKind_1 (by decide) (hl_in0 h1) ?_
  refine hl_iload_n h 0 dX5_checkKind_4 rfl ?_
  refine hl_iconst h 2 dX5_checkKind_5 (by decide) ?_
  refine hl_icmp_lt_T h 19 dX5_checkKind_6 (by decide) (hl_in1 2 rfl h1) ?_
  exact hend dX5_checkKind_19 (by
    exact (congrArg (hl_WC a cI cZ) (by rfl)))

set_option maxHeartbeats 4000000 in
set_option maxRecDepth 100000 in
theorem c_X5_checkGuest (l : Launch) (D : va_G) (cI cZ cJ : ClassId) (a : Nat → Nat) (g : Nat → Nat → Int32) (x : Int32) (h1 : vp_in x 10) : hl_KV D (hl_ty cI cZ cJ) l yX5_checkGuest wsX5_checkGuest ({ frames := 0, cells := 0, slots := 0, locals := 0 } : Room) 0 0 [.int x] (hl_WC a cI cZ g) (fun w => w = hl_WC a cI cZ g) := by
  refine hl_KV_of (cc := cX5_checkGuest) (maxL := 1) (by decide) rfl (Nat.le_of_ble_eq_true rfl) ?_
  intro p e s m args below meth c A Q h hnm hend
  refine hl_ls (ls' := [(0, .int x)]) rfl ?_
  refine hl_iload_n h 0 dX5_checkGuest_0 rfl ?_
  refine hl_if_lt_F h 10 dX5_checkGuest_1 (by decide) (hl_in0 h1) ?_
  refine hl_iload_n h 0 dX5_checkGuest_4 rfl ?_
  refine hl_bipush h 10 dX5_checkGuest_5 (by decide) ?_
  refine hl_icmp_lt_T h 20 dX5_checkGuest_7 (by decide) (hl_in1 10 rfl h1) ?_
  exact hend dX5_checkGuest_20 (by
    exact (congrArg (hl_WC a cI cZ) (by rfl)))

set_option maxHeartbeats 4000000 in
set_option maxRecDepth 100000 in
theorem c_X5_checkBooking (l : Launch) (D : va_G) (cI cZ cJ : ClassId) (a : Nat → Nat) (g : Nat → Nat → Int32) (x : Int32) (h1 : ¬ x < 0) (h2 : x < g 16 0) : hl_KV D (hl_ty cI cZ cJ) l yX5_checkBooking wsX5_checkBooking ({ frames := 0, cells := 0, slots := 0, locals := 0 } : Room) 0 0 [.ref (a 0), .int x] (hl_WC a cI cZ g) (fun w => w = hl_WC a cI cZ g) := by
  refine hl_KV_of (cc := cX5_checkBooking) (maxL := 2) (by decide) rfl (Nat.le_of_ble_eq_true rfl) ?_
  intro p e s m args below meth c A Q h hnm hend
  have hi0 : ∀ z ∈ wsX00, z ∈ wsX5_checkBooking := by decide +kernel
  have hi5 : ∀ z ∈ wsX50, z ∈ wsX5_checkBooking := by decide +kernel
  refine hl_ls (ls' := [(0, .ref (a 0)), (1, .int x)]) rfl ?_
  refine hl_iload_n h 1 dX5_checkBooking_0 rfl ?_
  refine hl_if_lt_F h 15 dX5_checkBooking_1 (by decide) h1 ?_
  refine hl_iload_n h 1 dX5_checkBooking_4 rfl ?_
  refine hl_aload_n h 0 dX5_checkBooking_5 rfl ?_
  refine hl_get h hi5 hl_wc_0 rfl 2 rfl dX5_checkBooking_6 (by decide) (by decide +kernel) ?_
  refine hl_get h hi0 hl_wc_3 rfl 6 rfl dX5_checkBooking_9 (by decide) (by decide +kernel) ?_
  refine hl_icmp_lt_T h 25 dX5_checkBooking_12 (by decide) h2 ?_
  exact hend dX5_checkBooking_25 (by
    exact (congrArg (hl_WC a cI cZ) (by rfl)))

set_option maxHeartbeats 4000000 in
set_option maxRecDepth 100000 in
theorem c_X5_checkRange (l : Launch) (D : va_G) (cI cZ cJ : ClassId) (a : Nat → Nat) (g : Nat → Nat → Int32) (x y z : Int32) (h1 : ¬ x < y) (h2 : x ≤ z) : hl_KV D (hl_ty cI cZ cJ) l yX5_checkRange wsX5_checkRange ({ frames := 0, cells := 0, slots := 0, locals := 0 } : Room) 0 0 [.int x, .int y, .int z] (hl_WC a cI cZ g) (fun w => w = hl_WC a cI cZ g) := by
  refine hl_KV_of (cc := cX5_checkRange) (maxL := 3) (by decide) rfl (Nat.le_of_ble_eq_true rfl) ?_
  intro p e s m args below meth c A Q h hnm hend
  refine hl_ls (ls' := [(0, .int x), (1, .int y), (2, .int z)]) rfl ?_
  refine hl_iload_n h 0 dX5_checkRange_0 rfl ?_
  refine hl_iload_n h 1 dX5_checkRange_1 rfl ?_
  refine hl_icmp_lt_F h 10 dX5_checkRange_2 (by decide) h1 ?_
  refine hl_iload_n h 0 dX5_checkRange_5 rfl ?_
  refine hl_iload_n h 2 dX5_checkRange_6 rfl ?_
  refine hl_icmp_le_T h 20 dX5_checkRange_7 (by decide) h2 ?_
  exact hend dX5_checkRange_20 (by
    exact (congrArg (hl_WC a cI cZ) (by rfl)))

set_option maxHeartbeats 4000000 in
set_option maxRecDepth 100000 in
theorem c_X5_distance (l : Launch) (D : va_G) (cI cZ cJ : ClassId) (a : Nat → Nat) (g : Nat → Nat → Int32) (x y : Int32) : hl_KI D (hl_ty cI cZ cJ) l yX5_distance wsX5_distance ({ frames := 1, cells := 0, slots := 0, locals := 13 } : Room) 0 0 [.int x, .int y] (hl_WC a cI cZ g) (fun r w => r = r_X5_distance x y ∧ w = hl_WC a cI cZ g) := by
  refine hl_KI_of (cc := cX5_distance) (maxL := 3) .int rfl (fun _ => Or.inr rfl) (by decide) rfl (Nat.le_of_ble_eq_true rfl) ?_
  intro p e s m args below meth c A Q h hend
  refine hl_ls (ls' := [(0, .int x), (1, .int y)]) rfl ?_
  refine hl_iload_n h 0 dX5_distance_0 rfl ?_
  refine hl_iload_n h 1 dX5_distance_1 rfl ?_
  refine hl_isub h dX5_distance_2 ?_
  refine hl_abs h dX5_distance_3 (by decide +kernel) (by decide +kernel) (by decide +kernel) (by decide +kernel) (Nat.le_of_ble_eq_true rfl) (Nat.le_of_ble_eq_true rfl) (Nat.le_of_ble_eq_true rfl) (Nat.le_of_ble_eq_true rfl) ?_
  refine hl_istore_n h [(2, .int (if 0 ≤ (x - y) then (x - y) else 0 - (x - y))), (0, .int x), (1, .int y)] dX5_distance_6 (by decide) rfl ?_
  refine hl_iload_n h 0 dX5_distance_7 rfl ?_
  refine hl_iconst h 4 dX5_distance_8 (by decide) ?_
  refine hl_iload_n h 0 dX5_distance_9 rfl ?_
  refine hl_isub h dX5_distance_10 ?_
  refine hl_min h dX5_distance_11 (by decide +kernel) (by decide +kernel) (by decide +kernel) (by decide +kernel) (Nat.le_of_ble_eq_true rfl) (Nat.le_of_ble_eq_true rfl) (Nat.le_of_ble_eq_true rfl) (Nat.le_of_ble_eq_true rfl) ?_
  exact hend dX5_distance_14 (fun h9 => nomatch h9) (by
    exact ⟨rfl, rfl⟩)

set_option maxHeartbeats 4000000 in
set_option maxRecDepth 100000 in
theorem c_X5_extraOf (l : Launch) (D : va_G) (cI cZ cJ : ClassId) (a : Nat → Nat) (g : Nat → Nat → Int32) (x : Int32) (N M : Nat) (ho : hl_ok g N M) : hl_KI D (hl_ty cI cZ cJ) l yX5_extraOf wsX5_extraOf ({ frames := 1, cells := 0, slots := 0, locals := 25 } : Room) 0 0 [.ref (a 0), .int x] (hl_WC a cI cZ g) (fun r w => r = r_X5_extraOf g N x ∧ w = hl_WC a cI cZ g) := by
  refine hl_KI_of (cc := cX5_extraOf) (maxL := 2) .int rfl (fun _ => Or.inr rfl) (by decide) rfl (Nat.le_of_ble_eq_true rfl) ?_
  intro p e s m args below meth c A Q h hend
  have hi5 : ∀ z ∈ wsX50, z ∈ wsX5_extraOf := by decide +kernel
  obtain ⟨hN, hc, hM, hm, hbk, hpt, hbr⟩ := id ho
  refine hl_ls (ls' := [(0, .ref (a 0)), (1, .int x)]) rfl ?_
  refine hl_aload_n h 0 dX5_extraOf_0 rfl ?_
  refine hl_get h hi5 hl_wc_0 rfl 2 rfl dX5_extraOf_1 (by decide) (by decide +kernel) ?_
  refine hl_iload_n h 1 dX5_extraOf_4 rfl ?_
  refine hl_aload_n h 0 dX5_extraOf_5 rfl ?_
  refine hl_get h hi5 hl_wc_0 rfl 5 rfl dX5_extraOf_6 (by decide) (by decide +kernel) ?_
  refine hl_iconst h 4 dX5_extraOf_9 (by decide) ?_
  refine hl_isub h dX5_extraOf_10 ?_
  refine hl_aload_n h 0 dX5_extraOf_11 rfl ?_
  refine hl_get h hi5 hl_wc_0 rfl 5 rfl dX5_extraOf_12 (by decide) (by decide +kernel) ?_
  refine hl_callViD h (st := []) (c_X0_missedAt l D cI cZ cJ a g x ((g 23 0) - 4) (g 23 0) N hN (by with_reducible assumption)) (cwV 3 h.2.2.2.2.1 gX5_extraOf_X0_missedAt rfl rfl rfl (by decide +kernel) ⟨Nat.le_of_ble_eq_true rfl, Nat.le_of_ble_eq_true rfl⟩) hl_wc_3 rfl dX5_extraOf_15 rfl (Nat.le_of_ble_eq_true rfl) ⟨Nat.le_of_ble_eq_true rfl, Nat.le_of_ble_eq_true rfl⟩ rfl ?_
  refine hl_iconst h 4 dX5_extraOf_18 (by decide) ?_
  refine hl_idiv h dX5_extraOf_19 (by decide) ?_
  exact hend dX5_extraOf_20 (fun h9 => nomatch h9) (by
    exact ⟨by rfl, (congrArg (hl_WC a cI cZ) (by rfl))⟩)

set_option maxHeartbeats 4000000 in
set_option maxRecDepth 100000 in
theorem c_X5_takesMore (l : Launch) (D : va_G) (cI cZ cJ : ClassId) (a : Nat → Nat) (g : Nat → Nat → Int32) (x y z : Int32) (N M : Nat) (ho : hl_ok g N M) (h1 : vp_in x 4) (h2 : vp_in y 2) : hl_KI D (hl_ty cI cZ cJ) l yX5_takesMore wsX5_takesMore ({ frames := 2, cells := 0, slots := 0, locals := 46 } : Room) 0 0 [.ref (a 0), .int x, .int y, .int z] (hl_WC a cI cZ g) (fun r w => r = r_X5_takesMore g N x y z ∧ w = hl_WC a cI cZ g) := by
  refine hl_KI_of (cc := cX5_takesMore) (maxL := 4) .boolean rfl (fun _ => Or.inl rfl) (by decide) rfl (Nat.le_of_ble_eq_true rfl) ?_
  intro p e s m args below meth c A Q h hend
  have hi5 : ∀ z ∈ wsX50, z ∈ wsX5_takesMore := by decide +kernel
  obtain ⟨hN, hc, hM, hm, hbk, hpt, hbr⟩ := id ho
  refine hl_ls (ls' := [(0, .ref (a 0)), (1, .int x), (2, .int y), (3, .int z)]) rfl ?_
  refine hl_aload_n h 0 dX5_takesMore_0 rfl ?_
  refine hl_get h hi5 hl_wc_0 rfl 2 rfl dX5_takesMore_1 (by decide) (by decide +kernel) ?_
  refine hl_iload_n h 1 dX5_takesMore_4 rfl ?_
  refine hl_iload_n h 2 dX5_takesMore_5 rfl ?_
  refine hl_iload_n h 3 dX5_takesMore_6 rfl ?_
  refine hl_callViD h (st := []) (c_X0_countFor l D cI cZ cJ a g x y z N hN (by with_reducible assumption)) (cwV 3 h.2.2.2.2.1 gX5_takesMore_X0_countFor rfl rfl rfl (by decide +kernel) ⟨Nat.le_of_ble_eq_true rfl, Nat.le_of_ble_eq_true rfl⟩) hl_wc_3 rfl dX5_takesMore_7 rfl (Nat.le_of_ble_eq_true rfl) ⟨Nat.le_of_ble_eq_true rfl, Nat.le_of_ble_eq_true rfl⟩ rfl ?_
  refine hl_aload_n h 0 dX5_takesMore_10 rfl ?_
  refine hl_get h hi5 hl_wc_0 rfl 0 rfl dX5_takesMore_11 (by decide) (by decide +kernel) ?_
  refine hl_iload_n h 1 dX5_takesMore_14 rfl ?_
  refine hl_iload_n h 2 dX5_takesMore_15 rfl ?_
  refine hl_callViD h (st := [.int (hl_it (b_X0_countFor g x y z) 0 N 0)]) (c_X4_countOf l D cI cZ cJ a g x y (by with_reducible assumption) (by with_reducible assumption)) (cwV 2 h.2.2.2.2.1 gX5_takesMore_X4_countOf rfl rfl rfl (by decide +kernel) ⟨Nat.le_of_ble_eq_true rfl, Nat.le_of_ble_eq_true rfl⟩) hl_wc_1 rfl dX5_takesMore_16 rfl (Nat.le_of_ble_eq_true rfl) ⟨Nat.le_of_ble_eq_true rfl, Nat.le_of_ble_eq_true rfl⟩ rfl ?_
  refine hl_aload_n h 0 dX5_takesMore_19 rfl ?_
  refine hl_iload_n h 1 dX5_takesMore_20 rfl ?_
  refine hl_callViD h (st := [.int ((g 0 (x * 2 + y).toNatClampNeg)), .int (hl_it (b_X0_countFor g x y z) 0 N 0)]) (c_X5_extraOf l D cI cZ cJ a g x N M ho) (cwV 1 h.2.2.2.2.1 gX5_takesMore_X5_extraOf rfl rfl rfl (by decide +kernel) ⟨Nat.le_of_ble_eq_true rfl, Nat.le_of_ble_eq_true rfl⟩) hl_wc_0 rfl dX5_takesMore_21 rfl (Nat.le_of_ble_eq_true rfl) ⟨Nat.le_of_ble_eq_true rfl, Nat.le_of_ble_eq_true rfl⟩ rfl ?_
  refine hl_iadd h dX5_takesMore_24 ?_
  refine hl_icmp_ge h 32 dX5_takesMore_25 (by decide) (fun c10 => ?_) (fun c10 => ?_)
  · refine hl_iconst h 0 dX5_takesMore_32 (by decide) ?_
    exact hend dX5_takesMore_33 (fun _ => by decide) (by
      exact ⟨by simp only [r_X5_takesMore, if_pos c10], rfl⟩)
  · refine hl_iconst h 1 dX5_takesMore_28 (by decide) ?_
    refine hl_goto h 33 dX5_takesMore_29 (by decide) ?_
    exact hend dX5_takesMore_33 (fun _ => by decide) (by
      exact ⟨by simp only [r_X5_takesMore, if_neg c10], rfl⟩)

set_option maxHeartbeats 4000000 in
set_option maxRecDepth 100000 in
theorem c_X5_findInn (l : Launch) (D : va_G) (cI cZ cJ : ClassId) (a : Nat → Nat) (g : Nat → Nat → Int32) (x y : Int32) (h1 : vp_in y 2) : hl_KI D (hl_ty cI cZ cJ) l yX5_findInn wsX5_findInn ({ frames := 3, cells := 0, slots := 0, locals := 65 } : Room) 0 0 [.ref (a 0), .int x, .int y] (hl_WC a cI cZ g) (fun r w => r = r_X5_findInn g x y ∧ w = hl_WC a cI cZ g) := by
  refine hl_KI_of (cc := cX5_findInn) (maxL := 5) .int rfl (fun _ => Or.inr rfl) (by decide) rfl (Nat.le_of_ble_eq_true rfl) ?_
  intro p e s m args below meth c A Q h hend
  have hi5 : ∀ z ∈ wsX50, z ∈ wsX5_findInn := by decide +kernel
  refine hl_ls (ls' := [(0, .ref (a 0)), (1, .int x), (2, .int y)]) rfl ?_
  refine hl_iconst h 0 dX5_findInn_0 (by decide) ?_
  refine hl_istore_n h [(3, .int 0), (0, .ref (a 0)), (1, .int x), (2, .int y)] dX5_findInn_1 (by decide) rfl ?_
  have lp2 : ∀ (n : Nat) (i : Nat), i + n = 3 → hl_it (b_X5_find g x y) i n (-1) = r_X5_findInn g x y →  hl_X p l e ({ frames := 3, cells := 0, slots := 0, locals := 65 } : Room) s m args below meth c 5 D A 0 0 Q (hl_WC a cI cZ g) 2 [(0, .ref (a 0)), (1, .int x), (2, .int y), (3, .int (nI i))] [] := by
    intro n
    induction n with
    | zero =>
      intro i hi hv
      refine hl_iload_n h 3 dX5_findInn_2 rfl ?_
      refine hl_iconst h 2 dX5_findInn_3 (by decide) ?_
      refine hl_icmp_gt_T h 67 dX5_findInn_4 (by decide) (by rw [show i = 3 by omega]; decide) ?_
      refine hl_iconst h (-1) dX5_findInn_67 (by decide) ?_
      exact hend dX5_findInn_68 (fun h9 => nomatch h9) (by
        exact ⟨hv, rfl⟩)
    | succ n ih =>
      intro i hi hv
      refine hl_iload_n h 3 dX5_findInn_2 rfl ?_
      refine hl_iconst h 2 dX5_findInn_3 (by decide) ?_
      refine hl_icmp_gt_F h 67 dX5_findInn_4 (by decide) (nI_nlt (a := 2) (by omega) (by decide)) ?_
      refine hl_iconst h 0 dX5_findInn_7 (by decide) ?_
      refine hl_istore h [(4, .int 0), (0, .ref (a 0)), (1, .int x), (2, .int y), (3, .int (nI i))] dX5_findInn_8 (by decide) rfl ?_
      have lp10 : ∀ (m2 : Nat) (j : Nat), j + m2 = 4 → hl_it (b_X5_findIn g x y i) j m2 (-1) = hl_it (b_X5_findIn g x y i) 0 4 (-1) →  hl_X p l e ({ frames := 3, cells := 0, slots := 0, locals := 65 } : Room) s m args below meth c 5 D A 0 0 Q (hl_WC a cI cZ g) 10 [(0, .ref (a 0)), (1, .int x), (2, .int y), (3, .int (nI i)), (4, .int (nI j))] [] := by
        intro m2
        induction m2 with
        | zero =>
          intro j hj hw
          refine hl_iload h 4 dX5_findInn_10 rfl ?_
          refine hl_iconst h 4 dX5_findInn_12 (by decide) ?_
          refine hl_icmp_ge_T h 61 dX5_findInn_13 (by decide) (by rw [show j = 4 by omega]; decide) ?_
          refine hl_iinc h 3 (nI (i + 1)) [(3, .int (nI (i + 1))), (0, .ref (a 0)), (1, .int x), (2, .int y), (4, .int (nI j))] dX5_findInn_61 rfl (hl_inc i) (by decide) rfl ?_
          refine hl_goto h 2 dX5_findInn_64 (by decide) ?_
          refine hl_lsub [1, 2, 3, 0] rfl ?_
          exact ih (i + 1) (by omega) (by rw [← hv, hl_it_s, b_X5_find, ← hw]; rfl)
        | succ m2 ih2 =>
          intro j hj hw
          have hvj : vp_in (nI j) 4 := vp_in_nI (by omega) (by decide)
          refine hl_iload h 4 dX5_findInn_10 rfl ?_
          refine hl_iconst h 4 dX5_findInn_12 (by decide) ?_
          refine hl_icmp_ge_F h 61 dX5_findInn_13 (by decide) (nI_ge (b := 4) (by omega) (by decide)) ?_
          refine hl_iload_n h 1 dX5_findInn_16 rfl ?_
          refine hl_iload h 4 dX5_findInn_17 rfl ?_
          refine hl_callSiD h (st := []) (c_X5_distance l D cI cZ cJ a g x (nI j)) (va_cwS 2 h.2.2.2.2.1 gX5_findInn_X5_distance rfl rfl rfl (by decide +kernel) ⟨Nat.le_of_ble_eq_true rfl, Nat.le_of_ble_eq_true rfl⟩) dX5_findInn_19 rfl (Nat.le_of_ble_eq_true rfl) ⟨Nat.le_of_ble_eq_true rfl, Nat.le_of_ble_eq_true rfl⟩ rfl ?_
          refine hl_iload_n h 3 dX5_findInn_22 rfl ?_
          refine hl_icmp_ne h 55 dX5_findInn_23 (by decide) (fun c4 => ?_) (fun c4 => ?_)
          · refine hl_iinc h 4 (nI (j + 1)) [(4, .int (nI (j + 1))), (0, .ref (a 0)), (1, .int x), (2, .int y), (3, .int (nI i))] dX5_findInn_55 rfl (hl_inc j) (by decide) rfl ?_
            refine hl_goto h 10 dX5_findInn_58 (by decide) ?_
            refine hl_lsub [1, 2, 3, 4, 0] rfl ?_
            exact ih2 (j + 1) (by omega) (by rw [← hw, hl_it_s, show b_X5_findIn g x y i j (-1) = -1 from by simp [b_X5_findIn, c4]])
          · refine hl_aload_n h 0 dX5_findInn_26 rfl ?_
            refine hl_get h hi5 hl_wc_0 rfl 0 rfl dX5_findInn_27 (by decide) (by decide +kernel) ?_
            refine hl_iload h 4 dX5_findInn_30 rfl ?_
            refine hl_iload_n h 2 dX5_findInn_32 rfl ?_
            refine hl_callViD h (st := []) (c_X4_freeOf l D cI cZ cJ a g (nI j) y (by with_reducible assumption) (by with_reducible assumption)) (cwV 2 h.2.2.2.2.1 gX5_findInn_X4_freeOf rfl rfl rfl (by decide +kernel) ⟨Nat.le_of_ble_eq_true rfl, Nat.le_of_ble_eq_true rfl⟩) hl_wc_1 rfl dX5_findInn_33 rfl (Nat.le_of_ble_eq_true rfl) ⟨Nat.le_of_ble_eq_true rfl, Nat.le_of_ble_eq_true rfl⟩ rfl ?_
            refine hl_if_le h 55 dX5_findInn_36 (by decide) (fun c8 => ?_) (fun c8 => ?_)
            · refine hl_iinc h 4 (nI (j + 1)) [(4, .int (nI (j + 1))), (0, .ref (a 0)), (1, .int x), (2, .int y), (3, .int (nI i))] dX5_findInn_55 rfl (hl_inc j) (by decide) rfl ?_
              refine hl_goto h 10 dX5_findInn_58 (by decide) ?_
              refine hl_lsub [1, 2, 3, 4, 0] rfl ?_
              exact ih2 (j + 1) (by omega) (by rw [← hw, hl_it_s, show b_X5_findIn g x y i j (-1) = -1 from by simp [b_X5_findIn, c4, c8]])
            · refine hl_aload_n h 0 dX5_findInn_39 rfl ?_
              refine hl_get h hi5 hl_wc_0 rfl 1 rfl dX5_findInn_40 (by decide) (by decide +kernel) ?_
              refine hl_iload h 4 dX5_findInn_43 rfl ?_
              refine hl_callViD h (st := []) (c_X2_giverFor l D cI cZ cJ a g (nI j) (by with_reducible assumption)) (cwV 1 h.2.2.2.2.1 gX5_findInn_X2_giverFor rfl rfl rfl (by decide +kernel) ⟨Nat.le_of_ble_eq_true rfl, Nat.le_of_ble_eq_true rfl⟩) hl_wc_2 rfl dX5_findInn_45 rfl (Nat.le_of_ble_eq_true rfl) ⟨Nat.le_of_ble_eq_true rfl, Nat.le_of_ble_eq_true rfl⟩ rfl ?_
              refine hl_iconst h (-1) dX5_findInn_48 (by decide) ?_
              refine hl_icmp_eq h 55 dX5_findInn_49 (by decide) (fun c12 => ?_) (fun c12 => ?_)
              · refine hl_iinc h 4 (nI (j + 1)) [(4, .int (nI (j + 1))), (0, .ref (a 0)), (1, .int x), (2, .int y), (3, .int (nI i))] dX5_findInn_55 rfl (hl_inc j) (by decide) rfl ?_
                refine hl_goto h 10 dX5_findInn_58 (by decide) ?_
                refine hl_lsub [1, 2, 3, 4, 0] rfl ?_
                exact ih2 (j + 1) (by omega) (by rw [← hw, hl_it_s, show b_X5_findIn g x y i j (-1) = -1 from by simp [b_X5_findIn, c4, c8, c12]])
              · refine hl_iload h 4 dX5_findInn_52 rfl ?_
                exact hend dX5_findInn_54 (fun h9 => nomatch h9) (by
                  exact ⟨by rw [← hv, hl_it_s, b_X5_find, ← hw, hl_it_s, show b_X5_findIn g x y i j (-1) = nI j from by simp [b_X5_findIn, c4, c8, c12], hl_find_stayIn g x y i (hl_nIm1 (by omega)), hl_find_stay g x y (hl_nIm1 (by omega))], rfl⟩)
      refine hl_lsub [1, 2, 3, 4, 0] rfl ?_
      exact lp10 4 0 rfl rfl
  refine hl_lsub [1, 2, 3, 0] rfl ?_
  exact lp2 3 0 rfl rfl

set_option maxHeartbeats 4000000 in
set_option maxRecDepth 100000 in
theorem c_X5_layLinen (l : Launch) (D : va_G) (cI cZ cJ : ClassId) (a : Nat → Nat) (g : Nat → Nat → Int32) (x : Int32) (h1 : vp_in x 4) : hl_KV D (hl_ty cI cZ cJ) l yX5_layLinen wsX5_layLinen ({ frames := 2, cells := 0, slots := 0, locals := 44 } : Room) 0 0 [.ref (a 0), .int x] (hl_WC a cI cZ g) (fun w => w = hl_WC a cI cZ (f_X5_layLinen g x)) := by
  refine hl_KV_of (cc := cX5_layLinen) (maxL := 3) (by decide) rfl (Nat.le_of_ble_eq_true rfl) ?_
  intro p e s m args below meth c A Q h hnm hend
  have hi5 : ∀ z ∈ wsX50, z ∈ wsX5_layLinen := by decide +kernel
  refine hl_ls (ls' := [(0, .ref (a 0)), (1, .int x)]) rfl ?_
  refine hl_aload_n h 0 dX5_layLinen_0 rfl ?_
  refine hl_get h hi5 hl_wc_0 rfl 1 rfl dX5_layLinen_1 (by decide) (by decide +kernel) ?_
  refine hl_iload_n h 1 dX5_layLinen_4 rfl ?_
  refine hl_callViD h (st := []) (c_X2_giverFor l D cI cZ cJ a g x (by with_reducible assumption)) (cwV 1 h.2.2.2.2.1 gX5_layLinen_X2_giverFor rfl rfl rfl (by decide +kernel) ⟨Nat.le_of_ble_eq_true rfl, Nat.le_of_ble_eq_true rfl⟩) hl_wc_2 rfl dX5_layLinen_5 rfl (Nat.le_of_ble_eq_true rfl) ⟨Nat.le_of_ble_eq_true rfl, Nat.le_of_ble_eq_true rfl⟩ rfl ?_
  refine hl_istore_n h [(2, .int (r_X2_giverFor g x)), (0, .ref (a 0)), (1, .int x)] dX5_layLinen_8 (by decide) rfl ?_
  refine hl_iload_n h 0 dX5_layLinen_9 rfl ?_
  refine hl_iconst h (-1) dX5_layLinen_10 (by decide) ?_
  refine hl_icmp_ne h 15 dX5_layLinen_11 (by decide) (fun c4 => ?_) (fun c4 => ?_)
  · have hgv : vp_in (r_X2_giverFor g x) 4 := (hl_giver_in g h1).resolve_left c4
    refine hl_iload_n h 0 dX5_layLinen_15 rfl ?_
    refine hl_iload_n h 2 dX5_layLinen_16 rfl ?_
    refine hl_icmp_eq h 36 dX5_layLinen_17 (by decide) (fun c5 => ?_) (fun c5 => ?_)
    · refine hl_aload_n h 1 dX5_layLinen_36 rfl ?_
      refine hl_get h hi5 hl_wc_0 rfl 1 rfl dX5_layLinen_37 (by decide) (by decide +kernel) ?_
      refine hl_iload_n h 2 dX5_layLinen_40 rfl ?_
      refine hl_iload_n h 0 dX5_layLinen_41 rfl ?_
      refine hl_callVvD h (st := []) (c_X2_take l D cI cZ cJ a g x (r_X2_giverFor g x) (by with_reducible assumption) (by with_reducible assumption)) (cwV 2 h.2.2.2.2.1 gX5_layLinen_X2_take rfl rfl rfl (by decide +kernel) ⟨Nat.le_of_ble_eq_true rfl, Nat.le_of_ble_eq_true rfl⟩) hl_wc_2 rfl dX5_layLinen_42 rfl (Nat.le_of_ble_eq_true rfl) ⟨Nat.le_of_ble_eq_true rfl, Nat.le_of_ble_eq_true rfl⟩ rfl ?_
      refine hl_nmC (fun g9 e10 => ?_)
      exact hend dX5_layLinen_45 (by
        subst e10
        exact congrArg (hl_WC a cI cZ) (by simp only [f_X5_layLinen, if_neg c4, if_pos c5]))
    · refine hl_aload_n h 1 dX5_layLinen_20 rfl ?_
      refine hl_get h hi5 hl_wc_0 rfl 4 rfl dX5_layLinen_21 (by decide) (by decide +kernel) ?_
      refine hl_iload_n h 2 dX5_layLinen_24 rfl ?_
      refine hl_iload_n h 0 dX5_layLinen_25 rfl ?_
      refine hl_aload_n h 1 dX5_layLinen_26 rfl ?_
      refine hl_get h hi5 hl_wc_0 rfl 1 rfl dX5_layLinen_27 (by decide) (by decide +kernel) ?_
      refine hl_callViD h (st := [.int (r_X2_giverFor g x), .int x, .ref (a 5)]) (c_X2_chargeForBorrowing l D cI cZ cJ a g) (cwV 0 h.2.2.2.2.1 gX5_layLinen_X2_chargeForBorrowing rfl rfl rfl (by decide +kernel) ⟨Nat.le_of_ble_eq_true rfl, Nat.le_of_ble_eq_true rfl⟩) hl_wc_2 rfl dX5_layLinen_30 rfl (Nat.le_of_ble_eq_true rfl) ⟨Nat.le_of_ble_eq_true rfl, Nat.le_of_ble_eq_true rfl⟩ rfl ?_
      refine hl_callVvD h (st := []) (c_X1_owe l D cI cZ cJ a g x (r_X2_giverFor g x) (1 + g 9 0) (by with_reducible assumption) (by with_reducible assumption)) (cwV 3 h.2.2.2.2.1 gX5_layLinen_X1_owe rfl rfl rfl (by decide +kernel) ⟨Nat.le_of_ble_eq_true rfl, Nat.le_of_ble_eq_true rfl⟩) hl_wc_5 rfl dX5_layLinen_33 rfl (Nat.le_of_ble_eq_true rfl) ⟨Nat.le_of_ble_eq_true rfl, Nat.le_of_ble_eq_true rfl⟩ rfl ?_
      refine hl_nmC (fun g17 e18 => ?_)
      refine hl_aload_n h 1 dX5_layLinen_36 rfl ?_
      refine hl_get h hi5 hl_wc_0 rfl 1 rfl dX5_layLinen_37 (by decide) (by decide +kernel) ?_
      refine hl_iload_n h 2 dX5_layLinen_40 rfl ?_
      refine hl_iload_n h 0 dX5_layLinen_41 rfl ?_
      refine hl_callVvD h (st := []) (c_X2_take l D cI cZ cJ a g17 x (r_X2_giverFor g x) (by with_reducible assumption) (by with_reducible assumption)) (cwV 2 h.2.2.2.2.1 gX5_layLinen_X2_take rfl rfl rfl (by decide +kernel) ⟨Nat.le_of_ble_eq_true rfl, Nat.le_of_ble_eq_true rfl⟩) hl_wc_2 rfl dX5_layLinen_42 rfl (Nat.le_of_ble_eq_true rfl) ⟨Nat.le_of_ble_eq_true rfl, Nat.le_of_ble_eq_true rfl⟩ rfl ?_
      refine hl_nmC (fun g22 e23 => ?_)
      exact hend dX5_layLinen_45 (by
        subst e23; subst e18
        exact congrArg (hl_WC a cI cZ) (by simp only [f_X5_layLinen, if_neg c4, if_neg c5]))
  · exact hend dX5_layLinen_14 (by
      skip
      exact congrArg (hl_WC a cI cZ) (by simp only [f_X5_layLinen, if_pos c4]))

set_option maxHeartbeats 4000000 in
set_option maxRecDepth 100000 in
theorem c_X5_putUp (l : Launch) (D : va_G) (cI cZ cJ : ClassId) (a : Nat → Nat) (g : Nat → Nat → Int32) (x y : Int32) (h1 : vp_in x 80) (h2 : vp_in y 4) (h3 : vp_in (g 11 x.toNatClampNeg) 4) (h4 : vp_in (g 12 x.toNatClampNeg) 2) (M : Nat) (hM : M ≤ 80) (hm : g 20 0 = nI M) : hl_KV D (hl_ty cI cZ cJ) l yX5_putUp wsX5_putUp ({ frames := 3, cells := 0, slots := 0, locals := 66 } : Room) 0 0 [.ref (a 0), .int x, .int y] (hl_WC a cI cZ g) (fun w => w = hl_WC a cI cZ (f_X5_putUp g x y)) := by
  refine hl_KV_of (cc := cX5_putUp) (maxL := 6) (by decide) rfl (Nat.le_of_ble_eq_true rfl) ?_
  intro p e s m args below meth c A Q h hnm hend
  have hi0 : ∀ z ∈ wsX00, z ∈ wsX5_putUp := by decide +kernel
  have hi5 : ∀ z ∈ wsX50, z ∈ wsX5_putUp := by decide +kernel
  refine hl_ls (ls' := [(0, .ref (a 0)), (1, .int x), (2, .int y)]) rfl ?_
  refine hl_aload_n h 0 dX5_putUp_0 rfl ?_
  refine hl_get h hi5 hl_wc_0 rfl 2 rfl dX5_putUp_1 (by decide) (by decide +kernel) ?_
  refine hl_get h hi0 hl_wc_3 rfl 1 rfl dX5_putUp_4 (by decide) (by decide +kernel) ?_
  refine hl_iload_n h 1 dX5_putUp_7 rfl ?_
  refine hl_ild h hl_wc_15 0 rfl dX5_putUp_8 (by with_reducible assumption) ?_
  refine hl_istore_n h [(3, .int (g 11 x.toNatClampNeg)), (0, .ref (a 0)), (1, .int x), (2, .int y)] dX5_putUp_9 (by decide) rfl ?_
  refine hl_aload_n h 1 dX5_putUp_10 rfl ?_
  refine hl_get h hi5 hl_wc_0 rfl 2 rfl dX5_putUp_11 (by decide) (by decide +kernel) ?_
  refine hl_get h hi0 hl_wc_3 rfl 2 rfl dX5_putUp_14 (by decide) (by decide +kernel) ?_
  refine hl_iload_n h 2 dX5_putUp_17 rfl ?_
  refine hl_ild h hl_wc_16 0 rfl dX5_putUp_18 (by with_reducible assumption) ?_
  refine hl_istore h [(4, .int (g 12 x.toNatClampNeg)), (3, .int (g 11 x.toNatClampNeg)), (0, .ref (a 0)), (1, .int x), (2, .int y)] dX5_putUp_19 (by decide) rfl ?_
  refine hl_aload_n h 2 dX5_putUp_21 rfl ?_
  refine hl_get h hi5 hl_wc_0 rfl 0 rfl dX5_putUp_22 (by decide) (by decide +kernel) ?_
  refine hl_iload_n h 4 dX5_putUp_25 rfl ?_
  refine hl_iload h 0 dX5_putUp_26 rfl ?_
  refine hl_callViD h (st := []) (c_X4_priceOf l D cI cZ cJ a g y (g 12 x.toNatClampNeg) (by with_reducible assumption) (by with_reducible assumption)) (cwV 2 h.2.2.2.2.1 gX5_putUp_X4_priceOf rfl rfl rfl (by decide +kernel) ⟨Nat.le_of_ble_eq_true rfl, Nat.le_of_ble_eq_true rfl⟩) hl_wc_1 rfl dX5_putUp_28 rfl (Nat.le_of_ble_eq_true rfl) ⟨Nat.le_of_ble_eq_true rfl, Nat.le_of_ble_eq_true rfl⟩ rfl ?_
  refine hl_istore h [(5, .int ((g 1 (y * 2 + (g 12 x.toNatClampNeg)).toNatClampNeg))), (4, .int (g 12 x.toNatClampNeg)), (3, .int (g 11 x.toNatClampNeg)), (0, .ref (a 0)), (1, .int x), (2, .int y)] dX5_putUp_31 (by decide) rfl ?_
  refine hl_aload_n h 3 dX5_putUp_33 rfl ?_
  refine hl_get h hi5 hl_wc_0 rfl 4 rfl dX5_putUp_34 (by decide) (by decide +kernel) ?_
  refine hl_iload_n h 2 dX5_putUp_37 rfl ?_
  refine hl_aload_n h 3 dX5_putUp_38 rfl ?_
  refine hl_get h hi5 hl_wc_0 rfl 0 rfl dX5_putUp_39 (by decide) (by decide +kernel) ?_
  refine hl_iload_n h 2 dX5_putUp_42 rfl ?_
  refine hl_iload h 1 dX5_putUp_43 rfl ?_
  refine hl_callViD h (st := [.int (g 11 x.toNatClampNeg), .ref (a 5)]) (c_X4_priceOf l D cI cZ cJ a g (g 11 x.toNatClampNeg) (g 12 x.toNatClampNeg) (by with_reducible assumption) (by with_reducible assumption)) (cwV 2 h.2.2.2.2.1 gX5_putUp_X4_priceOf rfl rfl rfl (by decide +kernel) ⟨Nat.le_of_ble_eq_true rfl, Nat.le_of_ble_eq_true rfl⟩) hl_wc_1 rfl dX5_putUp_45 rfl (Nat.le_of_ble_eq_true rfl) ⟨Nat.le_of_ble_eq_true rfl, Nat.le_of_ble_eq_true rfl⟩ rfl ?_
  refine hl_callVvD h (st := []) (c_X1_receive l D cI cZ cJ a g (g 11 x.toNatClampNeg) ((g 1 ((g 11 x.toNatClampNeg) * 2 + (g 12 x.toNatClampNeg)).toNatClampNeg)) (by with_reducible assumption)) (cwV 2 h.2.2.2.2.1 gX5_putUp_X1_receive rfl rfl rfl (by decide +kernel) ⟨Nat.le_of_ble_eq_true rfl, Nat.le_of_ble_eq_true rfl⟩) hl_wc_5 rfl dX5_putUp_48 rfl (Nat.le_of_ble_eq_true rfl) ⟨Nat.le_of_ble_eq_true rfl, Nat.le_of_ble_eq_true rfl⟩ rfl ?_
  refine hl_nmC (fun g10 e11 => ?_)
  refine hl_iload_n h 5 dX5_putUp_51 rfl ?_
  refine hl_iload_n h 2 dX5_putUp_52 rfl ?_
  refine hl_icmp_eq h 67 dX5_putUp_53 (by decide) (fun c12 => ?_) (fun c12 => ?_)
  · refine hl_aload_n h 3 dX5_putUp_67 rfl ?_
    refine hl_iload_n h 5 dX5_putUp_68 rfl ?_
    refine hl_callVvD h (st := []) (c_X5_layLinen l D cI cZ cJ a g10 y (by with_reducible assumption)) (cwV 1 h.2.2.2.2.1 gX5_putUp_X5_layLinen rfl rfl rfl (by decide +kernel) ⟨Nat.le_of_ble_eq_true rfl, Nat.le_of_ble_eq_true rfl⟩) hl_wc_0 rfl dX5_putUp_69 rfl (Nat.le_of_ble_eq_true rfl) ⟨Nat.le_of_ble_eq_true rfl, Nat.le_of_ble_eq_true rfl⟩ rfl ?_
    refine hl_nmC (fun g16 e17 => ?_)
    refine hl_aload_n h 3 dX5_putUp_72 rfl ?_
    refine hl_get h hi5 hl_wc_0 rfl 0 rfl dX5_putUp_73 (by decide) (by decide +kernel) ?_
    refine hl_iload_n h 5 dX5_putUp_76 rfl ?_
    refine hl_iload h 1 dX5_putUp_77 rfl ?_
    refine hl_callVvD h (st := []) (c_X4_addSleeper l D cI cZ cJ a g16 y (g 12 x.toNatClampNeg) (by with_reducible assumption) (by with_reducible assumption)) (cwV 2 h.2.2.2.2.1 gX5_putUp_X4_addSleeper rfl rfl rfl (by decide +kernel) ⟨Nat.le_of_ble_eq_true rfl, Nat.le_of_ble_eq_true rfl⟩) hl_wc_1 rfl dX5_putUp_79 rfl (Nat.le_of_ble_eq_true rfl) ⟨Nat.le_of_ble_eq_true rfl, Nat.le_of_ble_eq_true rfl⟩ rfl ?_
    refine hl_nmC (fun g21 e22 => ?_)
    refine hl_aload_n h 3 dX5_putUp_82 rfl ?_
    refine hl_get h hi5 hl_wc_0 rfl 3 rfl dX5_putUp_83 (by decide) (by decide +kernel) ?_
    refine hl_aload_n h 3 dX5_putUp_86 rfl ?_
    refine hl_get h hi5 hl_wc_0 rfl 2 rfl dX5_putUp_87 (by decide) (by decide +kernel) ?_
    refine hl_get h hi0 hl_wc_3 rfl 0 rfl dX5_putUp_90 (by decide) (by decide +kernel) ?_
    refine hl_iload_n h 4 dX5_putUp_93 rfl ?_
    refine hl_ild h hl_wc_14 0 rfl dX5_putUp_94 (by with_reducible assumption) ?_
    refine hl_iload_n h 5 dX5_putUp_95 rfl ?_
    refine hl_iload h 0 dX5_putUp_96 rfl ?_
    refine hl_bipush h 10 dX5_putUp_98 (by decide) ?_
    refine hl_idiv h dX5_putUp_100 (by decide) ?_
    have hm4 : g21 20 0 = nI M := by simp [fr_X4_addSleeper, fr_X5_layLinen, fr_X1_owe, fr_X1_receive, fr_X0_arrive, fr_X3_takeFrom, e11, e17, e22, hm]
    refine hl_callVvD h (st := []) (c_X3_add l D cI cZ cJ a g21 (g21 10 x.toNatClampNeg) y (((g 1 (y * 2 + (g 12 x.toNatClampNeg)).toNatClampNeg)) / 10) M hM (by with_reducible assumption)) (cwV 3 h.2.2.2.2.1 gX5_putUp_X3_add rfl rfl rfl (by decide +kernel) ⟨Nat.le_of_ble_eq_true rfl, Nat.le_of_ble_eq_true rfl⟩) hl_wc_4 rfl dX5_putUp_101 rfl (Nat.le_of_ble_eq_true rfl) ⟨Nat.le_of_ble_eq_true rfl, Nat.le_of_ble_eq_true rfl⟩ rfl ?_
    refine hl_nmC (fun g26 e27 => ?_)
    exact hend dX5_putUp_104 (by
      subst e27; subst e22; subst e17; subst e11
      exact congrArg (hl_WC a cI cZ) (by simp only [f_X5_putUp, if_pos c12]))
  · refine hl_aload_n h 3 dX5_putUp_56 rfl ?_
    refine hl_get h hi5 hl_wc_0 rfl 4 rfl dX5_putUp_57 (by decide) (by decide +kernel) ?_
    refine hl_iload_n h 2 dX5_putUp_60 rfl ?_
    refine hl_iload_n h 5 dX5_putUp_61 rfl ?_
    refine hl_iload h 0 dX5_putUp_62 rfl ?_
    refine hl_callVvD h (st := []) (c_X1_owe l D cI cZ cJ a g10 (g 11 x.toNatClampNeg) y ((g 1 (y * 2 + (g 12 x.toNatClampNeg)).toNatClampNeg)) (by with_reducible assumption) (by with_reducible assumption)) (cwV 3 h.2.2.2.2.1 gX5_putUp_X1_owe rfl rfl rfl (by decide +kernel) ⟨Nat.le_of_ble_eq_true rfl, Nat.le_of_ble_eq_true rfl⟩) hl_wc_5 rfl dX5_putUp_64 rfl (Nat.le_of_ble_eq_true rfl) ⟨Nat.le_of_ble_eq_true rfl, Nat.le_of_ble_eq_true rfl⟩ rfl ?_
    refine hl_nmC (fun g31 e32 => ?_)
    refine hl_aload_n h 3 dX5_putUp_67 rfl ?_
    refine hl_iload_n h 5 dX5_putUp_68 rfl ?_
    refine hl_callVvD h (st := []) (c_X5_layLinen l D cI cZ cJ a g31 y (by with_reducible assumption)) (cwV 1 h.2.2.2.2.1 gX5_putUp_X5_layLinen rfl rfl rfl (by decide +kernel) ⟨Nat.le_of_ble_eq_true rfl, Nat.le_of_ble_eq_true rfl⟩) hl_wc_0 rfl dX5_putUp_69 rfl (Nat.le_of_ble_eq_true rfl) ⟨Nat.le_of_ble_eq_true rfl, Nat.le_of_ble_eq_true rfl⟩ rfl ?_
    refine hl_nmC (fun g36 e37 => ?_)
    refine hl_aload_n h 3 dX5_putUp_72 rfl ?_
    refine hl_get h hi5 hl_wc_0 rfl 0 rfl dX5_putUp_73 (by decide) (by decide +kernel) ?_
    refine hl_iload_n h 5 dX5_putUp_76 rfl ?_
    refine hl_iload h 1 dX5_putUp_77 rfl ?_
    refine hl_callVvD h (st := []) (c_X4_addSleeper l D cI cZ cJ a g36 y (g 12 x.toNatClampNeg) (by with_reducible assumption) (by with_reducible assumption)) (cwV 2 h.2.2.2.2.1 gX5_putUp_X4_addSleeper rfl rfl rfl (by decide +kernel) ⟨Nat.le_of_ble_eq_true rfl, Nat.le_of_ble_eq_true rfl⟩) hl_wc_1 rfl dX5_putUp_79 rfl (Nat.le_of_ble_eq_true rfl) ⟨Nat.le_of_ble_eq_true rfl, Nat.le_of_ble_eq_true rfl⟩ rfl ?_
    refine hl_nmC (fun g41 e42 => ?_)
    refine hl_aload_n h 3 dX5_putUp_82 rfl ?_
    refine hl_get h hi5 hl_wc_0 rfl 3 rfl dX5_putUp_83 (by decide) (by decide +kernel) ?_
    refine hl_aload_n h 3 dX5_putUp_86 rfl ?_
    refine hl_get h hi5 hl_wc_0 rfl 2 rfl dX5_putUp_87 (by decide) (by decide +kernel) ?_
    refine hl_get h hi0 hl_wc_3 rfl 0 rfl dX5_putUp_90 (by decide) (by decide +kernel) ?_
    refine hl_iload_n h 4 dX5_putUp_93 rfl ?_
    refine hl_ild h hl_wc_14 0 rfl dX5_putUp_94 (by with_reducible assumption) ?_
    refine hl_iload_n h 5 dX5_putUp_95 rfl ?_
    refine hl_iload h 0 dX5_putUp_96 rfl ?_
    refine hl_bipush h 10 dX5_putUp_98 (by decide) ?_
    refine hl_idiv h dX5_putUp_100 (by decide) ?_
    have hm4 : g41 20 0 = nI M := by simp [fr_X4_addSleeper, fr_X5_layLinen, fr_X1_owe, fr_X1_receive, fr_X0_arrive, fr_X3_takeFrom, e11, e32, e37, e42, hm]
    refine hl_callVvD h (st := []) (c_X3_add l D cI cZ cJ a g41 (g41 10 x.toNatClampNeg) y (((g 1 (y * 2 + (g 12 x.toNatClampNeg)).toNatClampNeg)) / 10) M hM (by with_reducible assumption)) (cwV 3 h.2.2.2.2.1 gX5_putUp_X3_add rfl rfl rfl (by decide +kernel) ⟨Nat.le_of_ble_eq_true rfl, Nat.le_of_ble_eq_true rfl⟩) hl_wc_4 rfl dX5_putUp_101 rfl (Nat.le_of_ble_eq_true rfl) ⟨Nat.le_of_ble_eq_true rfl, Nat.le_of_ble_eq_true rfl⟩ rfl ?_
    refine hl_nmC (fun g46 e47 => ?_)
    exact hend dX5_putUp_104 (by
      subst e47; subst e42; subst e37; subst e32; subst e11
      exact congrArg (hl_WC a cI cZ) (by simp only [f_X5_putUp, if_neg c12]))

set_option maxHeartbeats 4000000 in
set_option maxRecDepth 100000 in
theorem c_X5_burnEarliest (l : Launch) (D : va_G) (cI cZ cJ : ClassId) (a : Nat → Nat) (g : Nat → Nat → Int32) (x y q : Int32) (N M : Nat) (ho : hl_ok g N M) (h2 : vp_in y 4) : hl_KV D (hl_ty cI cZ cJ) l yX5_burnEarliest wsX5_burnEarliest ({ frames := 2, cells := 0, slots := 0, locals := 44 } : Room) 0 0 [.ref (a 0), .int x, .int y, .int q] (hl_WC a cI cZ g) (fun w => w = hl_WC a cI cZ (f_X5_burnEarliest g M x y q)) := by
  refine hl_KV_of (cc := cX5_burnEarliest) (maxL := 7) (by decide) rfl (Nat.le_of_ble_eq_true rfl) ?_
  intro p e s m args below meth c A Q h hnm hend
  have hi3 : ∀ z ∈ wsX30, z ∈ wsX5_burnEarliest := by decide +kernel
  have hi5 : ∀ z ∈ wsX50, z ∈ wsX5_burnEarliest := by decide +kernel
  obtain ⟨hN, hc, hM, hm, hbk, hpt, hbr⟩ := id ho
  refine hl_ls (ls' := [(0, .ref (a 0)), (1, .int x), (2, .int y), (3, .int q)]) rfl ?_
  refine hl_iload_n h 3 dX5_burnEarliest_0 rfl ?_
  refine hl_istore h [(4, .int q), (0, .ref (a 0)), (1, .int x), (2, .int y), (3, .int q)] dX5_burnEarliest_1 (by decide) rfl ?_
  refine hl_iconst h 0 dX5_burnEarliest_3 (by decide) ?_
  refine hl_istore h [(5, .int 0), (4, .int q), (0, .ref (a 0)), (1, .int x), (2, .int y), (3, .int q)] dX5_burnEarliest_4 (by decide) rfl ?_
  have lp6 : ∀ (n : Nat) (i : Nat) (z : (Nat → Nat → Int32) × Int32), i + n = M → hl_it (b_X5_burn x y) i n z = hl_it (b_X5_burn x y) 0 M (g, q) → z.1 20 = g 20 → z.1 18 = g 18 →  hl_X p l e ({ frames := 2, cells := 0, slots := 0, locals := 44 } : Room) s m args below meth c 7 D A 0 0 Q (hl_WC a cI cZ z.1) 6 [(0, .ref (a 0)), (1, .int x), (2, .int y), (3, .int q), (4, .int z.2), (5, .int (nI i))] [] := by
    intro n
    induction n with
    | zero =>
      intro i z hi hv hz1 hz2
      refine hl_iload h 5 dX5_burnEarliest_6 rfl ?_
      refine hl_aload_n h 0 dX5_burnEarliest_8 rfl ?_
      refine hl_get h hi5 hl_wc_0 rfl 3 rfl dX5_burnEarliest_9 (by decide) (by decide +kernel) ?_
      refine hl_get h hi3 hl_wc_4 rfl 3 rfl dX5_burnEarliest_12 (by decide) (by decide +kernel) ?_
      refine hl_icmp_ge_T h 84 dX5_burnEarliest_15 (by decide) (by rw [hz1, hm]; exact nI_le (by omega) (by omega)) ?_
      exact hend dX5_burnEarliest_84 (by
        exact congrArg (fun u : (Nat → Nat → Int32) × Int32 => hl_WC a cI cZ u.1) hv)
    | succ n ih =>
      intro i z hi hv hz1 hz2
      have hvi : vp_in (nI i) 80 := vp_in_nI (by omega) (by decide)
      refine hl_iload h 5 dX5_burnEarliest_6 rfl ?_
      refine hl_aload_n h 0 dX5_burnEarliest_8 rfl ?_
      refine hl_get h hi5 hl_wc_0 rfl 3 rfl dX5_burnEarliest_9 (by decide) (by decide +kernel) ?_
      refine hl_get h hi3 hl_wc_4 rfl 3 rfl dX5_burnEarliest_12 (by decide) (by decide +kernel) ?_
      refine hl_icmp_ge_F h 84 dX5_burnEarliest_15 (by decide) (by rw [hz1, hm]; exact nI_ge (by omega) (by omega)) ?_
      refine hl_iload h 4 dX5_burnEarliest_18 rfl ?_
      refine hl_if_le h 84 dX5_burnEarliest_20 (by decide) (fun c1 => ?_) (fun c1 => ?_)
      · exact hend dX5_burnEarliest_84 (by
          exact congrArg (fun u : (Nat → Nat → Int32) × Int32 => hl_WC a cI cZ u.1) (by rw [← hv, hl_burn_stay x y c1]))
      · refine hl_aload_n h 0 dX5_burnEarliest_23 rfl ?_
        refine hl_get h hi5 hl_wc_0 rfl 3 rfl dX5_burnEarliest_24 (by decide) (by decide +kernel) ?_
        refine hl_iload h 5 dX5_burnEarliest_27 rfl ?_
        refine hl_iload_n h 1 dX5_burnEarliest_29 rfl ?_
        refine hl_iload h 4 dX5_burnEarliest_30 rfl ?_
        refine hl_callViD h (st := []) (c_X3_takeFrom l D cI cZ cJ a z.1 (nI i) x z.2 (by with_reducible assumption)) (cwV 3 h.2.2.2.2.1 gX5_burnEarliest_X3_takeFrom rfl rfl rfl (by decide +kernel) ⟨Nat.le_of_ble_eq_true rfl, Nat.le_of_ble_eq_true rfl⟩) hl_wc_4 rfl dX5_burnEarliest_32 rfl (Nat.le_of_ble_eq_true rfl) ⟨Nat.le_of_ble_eq_true rfl, Nat.le_of_ble_eq_true rfl⟩ rfl ?_
        refine hl_nmC (fun g5 e6 => ?_)
        refine hl_istore h [(6, .int (r_X3_takeFrom z.1 (nI i) x z.2)), (0, .ref (a 0)), (1, .int x), (2, .int y), (3, .int q), (4, .int z.2), (5, .int (nI i))] dX5_burnEarliest_35 (by decide) rfl ?_
        refine hl_iload h 5 dX5_burnEarliest_37 rfl ?_
        refine hl_iload h 0 dX5_burnEarliest_39 rfl ?_
        refine hl_isub h dX5_burnEarliest_41 ?_
        refine hl_istore h [(4, .int (z.2 - (r_X3_takeFrom z.1 (nI i) x z.2))), (6, .int (r_X3_takeFrom z.1 (nI i) x z.2)), (0, .ref (a 0)), (1, .int x), (2, .int y), (3, .int q), (5, .int (nI i))] dX5_burnEarliest_42 (by decide) rfl ?_
        refine hl_aload_n h 2 dX5_burnEarliest_44 rfl ?_
        refine hl_get h hi5 hl_wc_0 rfl 3 rfl dX5_burnEarliest_45 (by decide) (by decide +kernel) ?_
        refine hl_get h hi3 hl_wc_4 rfl 1 rfl dX5_burnEarliest_48 (by decide) (by decide +kernel) ?_
        refine hl_iload h 6 dX5_burnEarliest_51 rfl ?_
        refine hl_ildN h hl_wc_21 0 rfl i dX5_burnEarliest_53 rfl (by omega) (by decide) ?_
        refine hl_iload_n h 4 dX5_burnEarliest_54 rfl ?_
        refine hl_icmp_eq h 78 dX5_burnEarliest_55 (by decide) (fun c7 => ?_) (fun c7 => ?_)
        · refine hl_iinc h 6 (nI (i + 1)) [(5, .int (nI (i + 1))), (4, .int (z.2 - (r_X3_takeFrom z.1 (nI i) x z.2))), (6, .int (r_X3_takeFrom z.1 (nI i) x z.2)), (0, .ref (a 0)), (1, .int x), (2, .int y), (3, .int q)] dX5_burnEarliest_78 rfl (hl_inc i) (by decide) rfl ?_
          refine hl_goto h 6 dX5_burnEarliest_81 (by decide) ?_
          refine hl_lsub [3, 4, 5, 6, 1, 0] rfl ?_
          exact ih (i + 1) (g5, (z.2 - (r_X3_takeFrom z.1 (nI i) x z.2))) (by omega) (by rw [← hv, hl_it_s, show b_X5_burn x y i z = (g5, (z.2 - (r_X3_takeFrom z.1 (nI i) x z.2))) from (by subst e6; unfold b_X5_burn; rw [if_neg c1]; show ((if _ then _ else _), _) = _; rw [if_pos c7])]) (by simp [fr_X4_addSleeper, fr_X5_layLinen, fr_X1_owe, fr_X1_receive, fr_X0_arrive, fr_X3_takeFrom, e6, hz1]) (by simp [fr_X4_addSleeper, fr_X5_layLinen, fr_X1_owe, fr_X1_receive, fr_X0_arrive, fr_X3_takeFrom, e6, hz2])
        · have hvs : vp_in (g5 18 i) 4 := by rw [e6, fr_X3_takeFrom _ _ _ _ (by decide), hz2]; exact hpt i (by omega)
          refine hl_aload_n h 2 dX5_burnEarliest_58 rfl ?_
          refine hl_get h hi5 hl_wc_0 rfl 4 rfl dX5_burnEarliest_59 (by decide) (by decide +kernel) ?_
          refine hl_aload_n h 2 dX5_burnEarliest_62 rfl ?_
          refine hl_get h hi5 hl_wc_0 rfl 3 rfl dX5_burnEarliest_63 (by decide) (by decide +kernel) ?_
          refine hl_get h hi3 hl_wc_4 rfl 1 rfl dX5_burnEarliest_66 (by decide) (by decide +kernel) ?_
          refine hl_iload h 6 dX5_burnEarliest_69 rfl ?_
          refine hl_ildN h hl_wc_21 0 rfl i dX5_burnEarliest_71 rfl (by omega) (by decide) ?_
          refine hl_iload_n h 4 dX5_burnEarliest_72 rfl ?_
          refine hl_iload h 1 dX5_burnEarliest_73 rfl ?_
          refine hl_callVvD h (st := []) (c_X1_owe l D cI cZ cJ a g5 (g5 18 i) y (r_X3_takeFrom z.1 (nI i) x z.2) (by with_reducible assumption) (by with_reducible assumption)) (cwV 3 h.2.2.2.2.1 gX5_burnEarliest_X1_owe rfl rfl rfl (by decide +kernel) ⟨Nat.le_of_ble_eq_true rfl, Nat.le_of_ble_eq_true rfl⟩) hl_wc_5 rfl dX5_burnEarliest_75 rfl (Nat.le_of_ble_eq_true rfl) ⟨Nat.le_of_ble_eq_true rfl, Nat.le_of_ble_eq_true rfl⟩ rfl ?_
          refine hl_nmC (fun g11 e12 => ?_)
          refine hl_iinc h 6 (nI (i + 1)) [(5, .int (nI (i + 1))), (4, .int (z.2 - (r_X3_takeFrom z.1 (nI i) x z.2))), (6, .int (r_X3_takeFrom z.1 (nI i) x z.2)), (0, .ref (a 0)), (1, .int x), (2, .int y), (3, .int q)] dX5_burnEarliest_78 rfl (hl_inc i) (by decide) rfl ?_
          refine hl_goto h 6 dX5_burnEarliest_81 (by decide) ?_
          refine hl_lsub [3, 4, 5, 6, 1, 0] rfl ?_
          exact ih (i + 1) (g11, (z.2 - (r_X3_takeFrom z.1 (nI i) x z.2))) (by omega) (by rw [← hv, hl_it_s, show b_X5_burn x y i z = (g11, (z.2 - (r_X3_takeFrom z.1 (nI i) x z.2))) from (by subst e12; subst e6; unfold b_X5_burn; rw [if_neg c1]; show ((if _ then _ else _), _) = _; rw [if_neg c7])]) (by simp [fr_X4_addSleeper, fr_X5_layLinen, fr_X1_owe, fr_X1_receive, fr_X0_arrive, fr_X3_takeFrom, e6, e12, hz1]) (by simp [fr_X4_addSleeper, fr_X5_layLinen, fr_X1_owe, fr_X1_receive, fr_X0_arrive, fr_X3_takeFrom, e6, e12, hz2])
  refine hl_lsub [2, 3, 4, 5, 1, 0] rfl ?_
  exact lp6 M 0 (g, q) (Nat.zero_add M) rfl rfl rfl

set_option maxHeartbeats 4000000 in
set_option maxRecDepth 100000 in
theorem c_X5_setRooms (l : Launch) (D : va_G) (cI cZ cJ : ClassId) (a : Nat → Nat) (g : Nat → Nat → Int32) (x y n q : Int32) (h1 : vp_in x 4) (h2 : vp_in y 2) (h3 : ¬ n < 0) (h4 : n ≤ 10) (h5 : ¬ q < 1) (h6 : q ≤ 100) : hl_KI D (hl_ty cI cZ cJ) l yX5_setRooms wsX5_setRooms ({ frames := 2, cells := 0, slots := 0, locals := 47 } : Room) 0 0 [.ref (a 0), .int x, .int y, .int n, .int q] (hl_WC a cI cZ g) (fun r w => r = g 0 (x * 2 + y).toNatClampNeg ∧ w = hl_WC a cI cZ (f_X4_change g x y n q)) := by
  refine hl_KI_of (cc := cX5_setRooms) (maxL := 5) .int rfl (fun _ => Or.inr rfl) (by decide) rfl (Nat.le_of_ble_eq_true rfl) ?_
  intro p e s m args below meth c A Q h hend
  have hi5 : ∀ z ∈ wsX50, z ∈ wsX5_setRooms := by decide +kernel
  refine hl_ls (ls' := [(0, .ref (a 0)), (1, .int x), (2, .int y), (3, .int n), (4, .int q)]) rfl ?_
  refine hl_iload_n h 1 dX5_setRooms_0 rfl ?_
  refine hl_callSvD h (st := []) (c_X5_checkInn l D cI cZ cJ a g x (by with_reducible assumption)) (va_cwS 1 h.2.2.2.2.1 gX5_setRooms_X5_checkInn rfl rfl rfl (by decide +kernel) ⟨Nat.le_of_ble_eq_true rfl, Nat.le_of_ble_eq_true rfl⟩) dX5_setRooms_1 rfl (Nat.le_of_ble_eq_true rfl) ⟨Nat.le_of_ble_eq_true rfl, Nat.le_of_ble_eq_true rfl⟩ rfl ?_
  refine hl_iload_n h 2 dX5_setRooms_4 rfl ?_
  refine hl_callSvD h (st := []) (c_X5_checkKind l D cI cZ cJ a g y (by with_reducible assumption)) (va_cwS 1 h.2.2.2.2.1 gX5_setRooms_X5_checkKind rfl rfl rfl (by decide +kernel) ⟨Nat.le_of_ble_eq_true rfl, Nat.le_of_ble_eq_true rfl⟩) dX5_setRooms_5 rfl (Nat.le_of_ble_eq_true rfl) ⟨Nat.le_of_ble_eq_true rfl, Nat.le_of_ble_eq_true rfl⟩ rfl ?_
  refine hl_iload_n h 3 dX5_setRooms_8 rfl ?_
  refine hl_iconst h 0 dX5_setRooms_9 (by decide) ?_
  refine hl_bipush h 10 dX5_setRooms_10 (by decide) ?_
  refine hl_callSvD h (st := []) (c_X5_checkRange l D cI cZ cJ a g n 0 10 (by with_reducible assumption) (by with_reducible assumption)) (va_cwS 3 h.2.2.2.2.1 gX5_setRooms_X5_checkRange rfl rfl rfl (by decide +kernel) ⟨Nat.le_of_ble_eq_true rfl, Nat.le_of_ble_eq_true rfl⟩) dX5_setRooms_12 rfl (Nat.le_of_ble_eq_true rfl) ⟨Nat.le_of_ble_eq_true rfl, Nat.le_of_ble_eq_true rfl⟩ rfl ?_
  refine hl_iload h 4 dX5_setRooms_15 rfl ?_
  refine hl_iconst h 1 dX5_setRooms_17 (by decide) ?_
  refine hl_bipush h 100 dX5_setRooms_18 (by decide) ?_
  refine hl_callSvD h (st := []) (c_X5_checkRange l D cI cZ cJ a g q 1 100 (by with_reducible assumption) (by with_reducible assumption)) (va_cwS 3 h.2.2.2.2.1 gX5_setRooms_X5_checkRange rfl rfl rfl (by decide +kernel) ⟨Nat.le_of_ble_eq_true rfl, Nat.le_of_ble_eq_true rfl⟩) dX5_setRooms_20 rfl (Nat.le_of_ble_eq_true rfl) ⟨Nat.le_of_ble_eq_true rfl, Nat.le_of_ble_eq_true rfl⟩ rfl ?_
  refine hl_aload_n h 0 dX5_setRooms_23 rfl ?_
  refine hl_get h hi5 hl_wc_0 rfl 0 rfl dX5_setRooms_24 (by decide) (by decide +kernel) ?_
  refine hl_iload_n h 1 dX5_setRooms_27 rfl ?_
  refine hl_iload_n h 2 dX5_setRooms_28 rfl ?_
  refine hl_iload_n h 3 dX5_setRooms_29 rfl ?_
  refine hl_iload h 4 dX5_setRooms_30 rfl ?_
  refine hl_callViD h (st := []) (c_X4_change l D cI cZ cJ a g x y n q (by with_reducible assumption) (by with_reducible assumption)) (cwV 4 h.2.2.2.2.1 gX5_setRooms_X4_change rfl rfl rfl (by decide +kernel) ⟨Nat.le_of_ble_eq_true rfl, Nat.le_of_ble_eq_true rfl⟩) hl_wc_1 rfl dX5_setRooms_32 rfl (Nat.le_of_ble_eq_true rfl) ⟨Nat.le_of_ble_eq_true rfl, Nat.le_of_ble_eq_true rfl⟩ rfl ?_
  refine hl_nmC (fun g16 e17 => ?_)
  exact hend dX5_setRooms_35 (fun h9 => nomatch h9) (by
    subst e17
    exact ⟨by rfl, (congrArg (hl_WC a cI cZ) (by rfl))⟩)

set_option maxHeartbeats 4000000 in
set_option maxRecDepth 100000 in
theorem c_X5_buyLinen (l : Launch) (D : va_G) (cI cZ cJ : ClassId) (a : Nat → Nat) (g : Nat → Nat → Int32) (x n : Int32) (h1 : vp_in x 4) (h3 : ¬ n < 1) (h4 : n ≤ 20) : hl_KI D (hl_ty cI cZ cJ) l yX5_buyLinen wsX5_buyLinen ({ frames := 1, cells := 0, slots := 0, locals := 22 } : Room) 0 0 [.ref (a 0), .int x, .int n] (hl_WC a cI cZ g) (fun r w => r = f_X2_addClean g x n 3 (x).toNatClampNeg ∧ w = hl_WC a cI cZ (f_X2_addClean g x n)) := by
  refine hl_KI_of (cc := cX5_buyLinen) (maxL := 3) .int rfl (fun _ => Or.inr rfl) (by decide) rfl (Nat.le_of_ble_eq_true rfl) ?_
  intro p e s m args below meth c A Q h hend
  have hi5 : ∀ z ∈ wsX50, z ∈ wsX5_buyLinen := by decide +kernel
  refine hl_ls (ls' := [(0, .ref (a 0)), (1, .int x), (2, .int n)]) rfl ?_
  refine hl_iload_n h 1 dX5_buyLinen_0 rfl ?_
  refine hl_callSvD h (st := []) (c_X5_checkInn l D cI cZ cJ a g x (by with_reducible assumption)) (va_cwS 1 h.2.2.2.2.1 gX5_buyLinen_X5_checkInn rfl rfl rfl (by decide +kernel) ⟨Nat.le_of_ble_eq_true rfl, Nat.le_of_ble_eq_true rfl⟩) dX5_buyLinen_1 rfl (Nat.le_of_ble_eq_true rfl) ⟨Nat.le_of_ble_eq_true rfl, Nat.le_of_ble_eq_true rfl⟩ rfl ?_
  refine hl_iload_n h 2 dX5_buyLinen_4 rfl ?_
  refine hl_iconst h 1 dX5_buyLinen_5 (by decide) ?_
  refine hl_bipush h 20 dX5_buyLinen_6 (by decide) ?_
  refine hl_callSvD h (st := []) (c_X5_checkRange l D cI cZ cJ a g n 1 20 (by with_reducible assumption) (by with_reducible assumption)) (va_cwS 3 h.2.2.2.2.1 gX5_buyLinen_X5_checkRange rfl rfl rfl (by decide +kernel) ⟨Nat.le_of_ble_eq_true rfl, Nat.le_of_ble_eq_true rfl⟩) dX5_buyLinen_8 rfl (Nat.le_of_ble_eq_true rfl) ⟨Nat.le_of_ble_eq_true rfl, Nat.le_of_ble_eq_true rfl⟩ rfl ?_
  refine hl_aload_n h 0 dX5_buyLinen_11 rfl ?_
  refine hl_get h hi5 hl_wc_0 rfl 1 rfl dX5_buyLinen_12 (by decide) (by decide +kernel) ?_
  refine hl_iload_n h 1 dX5_buyLinen_15 rfl ?_
  refine hl_iload_n h 2 dX5_buyLinen_16 rfl ?_
  refine hl_callViD h (st := []) (c_X2_addClean l D cI cZ cJ a g x n (by with_reducible assumption)) (cwV 2 h.2.2.2.2.1 gX5_buyLinen_X2_addClean rfl rfl rfl (by decide +kernel) ⟨Nat.le_of_ble_eq_true rfl, Nat.le_of_ble_eq_true rfl⟩) hl_wc_2 rfl dX5_buyLinen_17 rfl (Nat.le_of_ble_eq_true rfl) ⟨Nat.le_of_ble_eq_true rfl, Nat.le_of_ble_eq_true rfl⟩ rfl ?_
  refine hl_nmC (fun g10 e11 => ?_)
  exact hend dX5_buyLinen_20 (fun h9 => nomatch h9) (by
    subst e11
    exact ⟨by rfl, (congrArg (hl_WC a cI cZ) (by rfl))⟩)

set_option maxHeartbeats 4000000 in
set_option maxRecDepth 100000 in
theorem c_X5_setBroken (l : Launch) (D : va_G) (cI cZ cJ : ClassId) (a : Nat → Nat) (g : Nat → Nat → Int32) (x : Int32) (h1 : x = 0 ∨ x = 1) (h2 : g 8 0 = 0 ∨ g 8 0 = 1) : hl_KI D (hl_ty cI cZ cJ) l yX5_setBroken wsX5_setBroken ({ frames := 1, cells := 0, slots := 0, locals := 22 } : Room) 0 0 [.ref (a 0), .int x] (hl_WC a cI cZ g) (fun r w => r = g 8 0 ∧ w = hl_WC a cI cZ (hl_su g 8 (fun _ => x))) := by
  refine hl_KI_of (cc := cX5_setBroken) (maxL := 2) .boolean rfl (fun _ => Or.inl rfl) (by decide) rfl (Nat.le_of_ble_eq_true rfl) ?_
  intro p e s m args below meth c A Q h hend
  have hi5 : ∀ z ∈ wsX50, z ∈ wsX5_setBroken := by decide +kernel
  refine hl_ls (ls' := [(0, .ref (a 0)), (1, .int x)]) rfl ?_
  refine hl_aload_n h 0 dX5_setBroken_0 rfl ?_
  refine hl_get h hi5 hl_wc_0 rfl 1 rfl dX5_setBroken_1 (by decide) (by decide +kernel) ?_
  refine hl_iload_n h 1 dX5_setBroken_4 rfl ?_
  refine hl_callViD h (st := []) (c_X2_changeBroken l D cI cZ cJ a g x (by with_reducible assumption) (by with_reducible assumption)) (cwV 1 h.2.2.2.2.1 gX5_setBroken_X2_changeBroken rfl rfl rfl (by decide +kernel) ⟨Nat.le_of_ble_eq_true rfl, Nat.le_of_ble_eq_true rfl⟩) hl_wc_2 rfl dX5_setBroken_5 rfl (Nat.le_of_ble_eq_true rfl) ⟨Nat.le_of_ble_eq_true rfl, Nat.le_of_ble_eq_true rfl⟩ rfl ?_
  refine hl_nmC (fun g4 e5 => ?_)
  exact hend dX5_setBroken_8 (fun _ => h2) (by
    subst e5
    exact ⟨by rfl, (congrArg (hl_WC a cI cZ) (by rfl))⟩)

set_option maxHeartbeats 4000000 in
set_option maxRecDepth 100000 in
theorem c_X5_book (l : Launch) (D : va_G) (cI cZ cJ : ClassId) (a : Nat → Nat) (g : Nat → Nat → Int32) (x y z v : Int32) (N M : Nat) (ho : hl_ok g N M) (h1 : vp_in x 10) (h2 : vp_in y 4) (h3 : vp_in z 2) (h4 : ¬ v < g 23 0) (h5 : v ≤ g 23 0 + 10) (h6 : g 16 0 < 80) (h7 : ¬ r_X5_takesMore g N y z v = 0) : hl_KI D (hl_ty cI cZ cJ) l yX5_book wsX5_book ({ frames := 3, cells := 0, slots := 0, locals := 69 } : Room) 0 0 [.ref (a 0), .int x, .int y, .int z, .int v] (hl_WC a cI cZ g) (fun r w => r = g 16 0 ∧ w = hl_WC a cI cZ (f_X0_add g x y z v)) := by
  refine hl_KI_of (cc := cX5_book) (maxL := 5) .int rfl (fun _ => Or.inr rfl) (by decide) rfl (Nat.le_of_ble_eq_true rfl) ?_
  intro p e s m args below meth c A Q h hend
  have hi5 : ∀ z ∈ wsX50, z ∈ wsX5_book := by decide +kernel
  obtain ⟨hN, hc, hM, hm, hbk, hpt, hbr⟩ := id ho
  have h8 : vp_in (g 16 0) 80 := hl_in 80 rfl (by rw [hc]; exact nI_pos (by omega)) h6
  refine hl_ls (ls' := [(0, .ref (a 0)), (1, .int x), (2, .int y), (3, .int z), (4, .int v)]) rfl ?_
  refine hl_iload_n h 1 dX5_book_0 rfl ?_
  refine hl_callSvD h (st := []) (c_X5_checkGuest l D cI cZ cJ a g x (by with_reducible assumption)) (va_cwS 1 h.2.2.2.2.1 gX5_book_X5_checkGuest rfl rfl rfl (by decide +kernel) ⟨Nat.le_of_ble_eq_true rfl, Nat.le_of_ble_eq_true rfl⟩) dX5_book_1 rfl (Nat.le_of_ble_eq_true rfl) ⟨Nat.le_of_ble_eq_true rfl, Nat.le_of_ble_eq_true rfl⟩ rfl ?_
  refine hl_iload_n h 2 dX5_book_4 rfl ?_
  refine hl_callSvD h (st := []) (c_X5_checkInn l D cI cZ cJ a g y (by with_reducible assumption)) (va_cwS 1 h.2.2.2.2.1 gX5_book_X5_checkInn rfl rfl rfl (by decide +kernel) ⟨Nat.le_of_ble_eq_true rfl, Nat.le_of_ble_eq_true rfl⟩) dX5_book_5 rfl (Nat.le_of_ble_eq_true rfl) ⟨Nat.le_of_ble_eq_true rfl, Nat.le_of_ble_eq_true rfl⟩ rfl ?_
  refine hl_iload_n h 3 dX5_book_8 rfl ?_
  refine hl_callSvD h (st := []) (c_X5_checkKind l D cI cZ cJ a g z (by with_reducible assumption)) (va_cwS 1 h.2.2.2.2.1 gX5_book_X5_checkKind rfl rfl rfl (by decide +kernel) ⟨Nat.le_of_ble_eq_true rfl, Nat.le_of_ble_eq_true rfl⟩) dX5_book_9 rfl (Nat.le_of_ble_eq_true rfl) ⟨Nat.le_of_ble_eq_true rfl, Nat.le_of_ble_eq_true rfl⟩ rfl ?_
  refine hl_iload h 4 dX5_book_12 rfl ?_
  refine hl_aload_n h 0 dX5_book_14 rfl ?_
  refine hl_get h hi5 hl_wc_0 rfl 5 rfl dX5_book_15 (by decide) (by decide +kernel) ?_
  refine hl_aload_n h 0 dX5_book_18 rfl ?_
  refine hl_get h hi5 hl_wc_0 rfl 5 rfl dX5_book_19 (by decide) (by decide +kernel) ?_
  refine hl_bipush h 10 dX5_book_22 (by decide) ?_
  refine hl_iadd h dX5_book_24 ?_
  refine hl_callSvD h (st := []) (c_X5_checkRange l D cI cZ cJ a g v (g 23 0) ((g 23 0) + 10) (by with_reducible assumption) (by with_reducible assumption)) (va_cwS 3 h.2.2.2.2.1 gX5_book_X5_checkRange rfl rfl rfl (by decide +kernel) ⟨Nat.le_of_ble_eq_true rfl, Nat.le_of_ble_eq_true rfl⟩) dX5_book_25 rfl (Nat.le_of_ble_eq_true rfl) ⟨Nat.le_of_ble_eq_true rfl, Nat.le_of_ble_eq_true rfl⟩ rfl ?_
  refine hl_aload_n h 0 dX5_book_28 rfl ?_
  refine hl_get h hi5 hl_wc_0 rfl 2 rfl dX5_book_29 (by decide) (by decide +kernel) ?_
  refine hl_callViD h (st := []) (c_X0_isFull l D cI cZ cJ a g) (cwV 0 h.2.2.2.2.1 gX5_book_X0_isFull rfl rfl rfl (by decide +kernel) ⟨Nat.le_of_ble_eq_true rfl, Nat.le_of_ble_eq_true rfl⟩) hl_wc_3 rfl dX5_book_32 rfl (Nat.le_of_ble_eq_true rfl) ⟨Nat.le_of_ble_eq_true rfl, Nat.le_of_ble_eq_true rfl⟩ rfl ?_
  refine hl_if_ne_F h 49 dX5_book_35 (by decide) (by rw [if_pos h6]) ?_
  refine hl_aload_n h 0 dX5_book_38 rfl ?_
  refine hl_iload_n h 2 dX5_book_39 rfl ?_
  refine hl_iload_n h 3 dX5_book_40 rfl ?_
  refine hl_iload h 4 dX5_book_41 rfl ?_
  refine hl_callViD h (st := []) (c_X5_takesMore l D cI cZ cJ a g y z v N M ho (by with_reducible assumption) (by with_reducible assumption)) (cwV 3 h.2.2.2.2.1 gX5_book_X5_takesMore rfl rfl rfl (by decide +kernel) ⟨Nat.le_of_ble_eq_true rfl, Nat.le_of_ble_eq_true rfl⟩) hl_wc_0 rfl dX5_book_43 rfl (Nat.le_of_ble_eq_true rfl) ⟨Nat.le_of_ble_eq_true rfl, Nat.le_of_ble_eq_true rfl⟩ rfl ?_
  refine hl_if_ne_T h 59 dX5_book_46 (by decide) h7 ?_
  refine hl_aload_n h 0 dX5_book_59 rfl ?_
  refine hl_get h hi5 hl_wc_0 rfl 2 rfl dX5_book_60 (by decide) (by decide +kernel) ?_
  refine hl_iload_n h 1 dX5_book_63 rfl ?_
  refine hl_iload_n h 2 dX5_book_64 rfl ?_
  refine hl_iload_n h 3 dX5_book_65 rfl ?_
  refine hl_iload h 4 dX5_book_66 rfl ?_
  refine hl_callViD h (st := []) (c_X0_add l D cI cZ cJ a g x y z v (by with_reducible assumption)) (cwV 4 h.2.2.2.2.1 gX5_book_X0_add rfl rfl rfl (by decide +kernel) ⟨Nat.le_of_ble_eq_true rfl, Nat.le_of_ble_eq_true rfl⟩) hl_wc_3 rfl dX5_book_68 rfl (Nat.le_of_ble_eq_true rfl) ⟨Nat.le_of_ble_eq_true rfl, Nat.le_of_ble_eq_true rfl⟩ rfl ?_
  refine hl_nmC (fun g22 e23 => ?_)
  exact hend dX5_book_71 (fun h9 => nomatch h9) (by
    subst e23
    exact ⟨by rfl, (congrArg (hl_WC a cI cZ) (by rfl))⟩)

set_option maxHeartbeats 4000000 in
set_option maxRecDepth 100000 in
theorem c_X5_come (l : Launch) (D : va_G) (cI cZ cJ : ClassId) (a : Nat → Nat) (g : Nat → Nat → Int32) (x : Int32) (N M : Nat) (ho : hl_ok g N M) (h1 : ¬ x < 0) (h2 : x < g 16 0) (h3 : g 13 x.toNatClampNeg = g 23 0) (h4 : g 14 x.toNatClampNeg = 0) : hl_KI D (hl_ty cI cZ cJ) l yX5_come wsX5_come ({ frames := 4, cells := 0, slots := 0, locals := 91 } : Room) 0 0 [.ref (a 0), .int x] (hl_WC a cI cZ g) (fun r w => r = r_X5_findInn g (g 11 x.toNatClampNeg) (g 12 x.toNatClampNeg) ∧ w = hl_WC a cI cZ (f_X5_come g x)) := by
  refine hl_KI_of (cc := cX5_come) (maxL := 3) .int rfl (fun _ => Or.inr rfl) (by decide) rfl (Nat.le_of_ble_eq_true rfl) ?_
  intro p e s m args below meth c A Q h hend
  have hi0 : ∀ z ∈ wsX00, z ∈ wsX5_come := by decide +kernel
  have hi5 : ∀ z ∈ wsX50, z ∈ wsX5_come := by decide +kernel
  obtain ⟨hN, hc, hM, hm, hbk, hpt, hbr⟩ := id ho
  have hxN : vp_in x N := by
    refine vp_in_iff.mpr ⟨?_, ?_⟩
    · exact Int.not_lt.mp (fun z => h1 (Int32.lt_iff_toInt_lt.mpr z))
    · have z := Int32.lt_iff_toInt_lt.mp h2
      rw [hc, nI_toInt (by omega)] at z
      exact z
  have hxn : x.toNatClampNeg < N := Nat.not_le.mp (fun z => hxN (Or.inr z))
  have hx80 : vp_in x 80 := fun z => hxN (z.elim Or.inl (fun z => Or.inr (by omega)))
  have hin : vp_in (g 11 x.toNatClampNeg) 4 := (hbk _ hxn).1
  have hkd : vp_in (g 12 x.toNatClampNeg) 2 := (hbk _ hxn).2
  refine hl_ls (ls' := [(0, .ref (a 0)), (1, .int x)]) rfl ?_
  refine hl_aload_n h 0 dX5_come_0 rfl ?_
  refine hl_iload_n h 1 dX5_come_1 rfl ?_
  refine hl_callVvD h (st := []) (c_X5_checkBooking l D cI cZ cJ a g x (by with_reducible assumption) (by with_reducible assumption)) (cwV 1 h.2.2.2.2.1 gX5_come_X5_checkBooking rfl rfl rfl (by decide +kernel) ⟨Nat.le_of_ble_eq_true rfl, Nat.le_of_ble_eq_true rfl⟩) hl_wc_0 rfl dX5_come_2 rfl (Nat.le_of_ble_eq_true rfl) ⟨Nat.le_of_ble_eq_true rfl, Nat.le_of_ble_eq_true rfl⟩ rfl ?_
  refine hl_aload_n h 0 dX5_come_5 rfl ?_
  refine hl_get h hi5 hl_wc_0 rfl 2 rfl dX5_come_6 (by decide) (by decide +kernel) ?_
  refine hl_get h hi0 hl_wc_3 rfl 3 rfl dX5_come_9 (by decide) (by decide +kernel) ?_
  refine hl_iload_n h 1 dX5_come_12 rfl ?_
  refine hl_ild h hl_wc_17 0 rfl dX5_come_13 (by with_reducible assumption) ?_
  refine hl_aload_n h 0 dX5_come_14 rfl ?_
  refine hl_get h hi5 hl_wc_0 rfl 5 rfl dX5_come_15 (by decide) (by decide +kernel) ?_
  refine hl_icmp_ne_F h 33 dX5_come_18 (by decide) h3 ?_
  refine hl_aload_n h 0 dX5_come_21 rfl ?_
  refine hl_get h hi5 hl_wc_0 rfl 2 rfl dX5_come_22 (by decide) (by decide +kernel) ?_
  refine hl_get h hi0 hl_wc_3 rfl 4 rfl dX5_come_25 (by decide) (by decide +kernel) ?_
  refine hl_iload_n h 1 dX5_come_28 rfl ?_
  refine hl_zld h hl_wc_18 1 rfl dX5_come_29 (by with_reducible assumption) ?_
  refine hl_if_eq_T h 43 dX5_come_30 (by decide) h4 ?_
  refine hl_aload_n h 0 dX5_come_43 rfl ?_
  refine hl_aload_n h 0 dX5_come_44 rfl ?_
  refine hl_get h hi5 hl_wc_0 rfl 2 rfl dX5_come_45 (by decide) (by decide +kernel) ?_
  refine hl_get h hi0 hl_wc_3 rfl 1 rfl dX5_come_48 (by decide) (by decide +kernel) ?_
  refine hl_iload_n h 1 dX5_come_51 rfl ?_
  refine hl_ild h hl_wc_15 0 rfl dX5_come_52 (by with_reducible assumption) ?_
  refine hl_aload_n h 0 dX5_come_53 rfl ?_
  refine hl_get h hi5 hl_wc_0 rfl 2 rfl dX5_come_54 (by decide) (by decide +kernel) ?_
  refine hl_get h hi0 hl_wc_3 rfl 2 rfl dX5_come_57 (by decide) (by decide +kernel) ?_
  refine hl_iload_n h 1 dX5_come_60 rfl ?_
  refine hl_ild h hl_wc_16 0 rfl dX5_come_61 (by with_reducible assumption) ?_
  refine hl_callViD h (st := []) (c_X5_findInn l D cI cZ cJ a g (g 11 x.toNatClampNeg) (g 12 x.toNatClampNeg) (by with_reducible assumption)) (cwV 2 h.2.2.2.2.1 gX5_come_X5_findInn rfl rfl rfl (by decide +kernel) ⟨Nat.le_of_ble_eq_true rfl, Nat.le_of_ble_eq_true rfl⟩) hl_wc_0 rfl dX5_come_62 rfl (Nat.le_of_ble_eq_true rfl) ⟨Nat.le_of_ble_eq_true rfl, Nat.le_of_ble_eq_true rfl⟩ rfl ?_
  refine hl_istore_n h [(2, .int (r_X5_findInn g (g 11 x.toNatClampNeg) (g 12 x.toNatClampNeg))), (0, .ref (a 0)), (1, .int x)] dX5_come_65 (by decide) rfl ?_
  refine hl_aload_n h 1 dX5_come_66 rfl ?_
  refine hl_get h hi5 hl_wc_0 rfl 2 rfl dX5_come_67 (by decide) (by decide +kernel) ?_
  refine hl_iload_n h 2 dX5_come_70 rfl ?_
  refine hl_iload_n h 0 dX5_come_71 rfl ?_
  refine hl_callVvD h (st := []) (c_X0_arrive l D cI cZ cJ a g x (r_X5_findInn g (g 11 x.toNatClampNeg) (g 12 x.toNatClampNeg)) (by with_reducible assumption)) (cwV 2 h.2.2.2.2.1 gX5_come_X0_arrive rfl rfl rfl (by decide +kernel) ⟨Nat.le_of_ble_eq_true rfl, Nat.le_of_ble_eq_true rfl⟩) hl_wc_3 rfl dX5_come_72 rfl (Nat.le_of_ble_eq_true rfl) ⟨Nat.le_of_ble_eq_true rfl, Nat.le_of_ble_eq_true rfl⟩ rfl ?_
  refine hl_nmC (fun g10 e11 => ?_)
  refine hl_iload_n h 0 dX5_come_75 rfl ?_
  refine hl_iconst h (-1) dX5_come_76 (by decide) ?_
  refine hl_icmp_eq h 86 dX5_come_77 (by decide) (fun c12 => ?_) (fun c12 => ?_)
  · refine hl_iload_n h 0 dX5_come_86 rfl ?_
    exact hend dX5_come_87 (fun h9 => nomatch h9) (by
      exact ⟨rfl, congrArg (hl_WC a cI cZ) (by rw [e11]; simp only [f_X5_come, if_pos c12])⟩)
  · have hv4 : vp_in (r_X5_findInn g (g 11 x.toNatClampNeg) (g 12 x.toNatClampNeg)) 4 := (hl_find_in g _ _).resolve_left c12
    have hv5 : vp_in (g10 11 x.toNatClampNeg) 4 := by rw [e11, fr_X0_arrive _ _ _ (by decide) (by decide)]; exact hin
    have hv6 : vp_in (g10 12 x.toNatClampNeg) 2 := by rw [e11, fr_X0_arrive _ _ _ (by decide) (by decide)]; exact hkd
    have hv7 : g10 20 0 = nI M := by rw [e11, fr_X0_arrive _ _ _ (by decide) (by decide)]; exact hm
    refine hl_aload_n h 1 dX5_come_80 rfl ?_
    refine hl_iload_n h 2 dX5_come_81 rfl ?_
    refine hl_iload_n h 0 dX5_come_82 rfl ?_
    refine hl_callVvD h (st := []) (c_X5_putUp l D cI cZ cJ a g10 x (r_X5_findInn g (g 11 x.toNatClampNeg) (g 12 x.toNatClampNeg)) (by with_reducible assumption) (by with_reducible assumption) (by with_reducible assumption) (by with_reducible assumption) M hM (by with_reducible assumption)) (cwV 2 h.2.2.2.2.1 gX5_come_X5_putUp rfl rfl rfl (by decide +kernel) ⟨Nat.le_of_ble_eq_true rfl, Nat.le_of_ble_eq_true rfl⟩) hl_wc_0 rfl dX5_come_83 rfl (Nat.le_of_ble_eq_true rfl) ⟨Nat.le_of_ble_eq_true rfl, Nat.le_of_ble_eq_true rfl⟩ rfl ?_
    refine hl_nmC (fun g16 e17 => ?_)
    refine hl_iload_n h 0 dX5_come_86 rfl ?_
    exact hend dX5_come_87 (fun h9 => nomatch h9) (by
      exact ⟨rfl, congrArg (hl_WC a cI cZ) (by rw [e17, e11]; simp only [f_X5_come, if_neg c12])⟩)

set_option maxHeartbeats 4000000 in
set_option maxRecDepth 100000 in
theorem c_X5_burn (l : Launch) (D : va_G) (cI cZ cJ : ClassId) (a : Nat → Nat) (g : Nat → Nat → Int32) (x y q : Int32) (N M : Nat) (ho : hl_ok g N M) (h1 : vp_in x 10) (h2 : vp_in y 4) (h3 : ¬ q < 1) (h4 : q ≤ 100) (h5 : q ≤ hl_it (b_X3_ofGuest g x) 0 M 0) : hl_KI D (hl_ty cI cZ cJ) l yX5_burn wsX5_burn ({ frames := 3, cells := 0, slots := 0, locals := 70 } : Room) 0 0 [.ref (a 0), .int x, .int y, .int q] (hl_WC a cI cZ g) (fun r w => r = hl_it (b_X3_ofGuest (f_X5_burnEarliest g M x y q) x) 0 M 0 ∧ w = hl_WC a cI cZ (f_X5_burnEarliest g M x y q)) := by
  refine hl_KI_of (cc := cX5_burn) (maxL := 4) .int rfl (fun _ => Or.inr rfl) (by decide) rfl (Nat.le_of_ble_eq_true rfl) ?_
  intro p e s m args below meth c A Q h hend
  have hi5 : ∀ z ∈ wsX50, z ∈ wsX5_burn := by decide +kernel
  obtain ⟨hN, hc, hM, hm, hbk, hpt, hbr⟩ := id ho
  refine hl_ls (ls' := [(0, .ref (a 0)), (1, .int x), (2, .int y), (3, .int q)]) rfl ?_
  refine hl_iload_n h 1 dX5_burn_0 rfl ?_
  refine hl_callSvD h (st := []) (c_X5_checkGuest l D cI cZ cJ a g x (by with_reducible assumption)) (va_cwS 1 h.2.2.2.2.1 gX5_burn_X5_checkGuest rfl rfl rfl (by decide +kernel) ⟨Nat.le_of_ble_eq_true rfl, Nat.le_of_ble_eq_true rfl⟩) dX5_burn_1 rfl (Nat.le_of_ble_eq_true rfl) ⟨Nat.le_of_ble_eq_true rfl, Nat.le_of_ble_eq_true rfl⟩ rfl ?_
  refine hl_iload_n h 2 dX5_burn_4 rfl ?_
  refine hl_callSvD h (st := []) (c_X5_checkInn l D cI cZ cJ a g y (by with_reducible assumption)) (va_cwS 1 h.2.2.2.2.1 gX5_burn_X5_checkInn rfl rfl rfl (by decide +kernel) ⟨Nat.le_of_ble_eq_true rfl, Nat.le_of_ble_eq_true rfl⟩) dX5_burn_5 rfl (Nat.le_of_ble_eq_true rfl) ⟨Nat.le_of_ble_eq_true rfl, Nat.le_of_ble_eq_true rfl⟩ rfl ?_
  refine hl_iload_n h 3 dX5_burn_8 rfl ?_
  refine hl_iconst h 1 dX5_burn_9 (by decide) ?_
  refine hl_bipush h 100 dX5_burn_10 (by decide) ?_
  refine hl_callSvD h (st := []) (c_X5_checkRange l D cI cZ cJ a g q 1 100 (by with_reducible assumption) (by with_reducible assumption)) (va_cwS 3 h.2.2.2.2.1 gX5_burn_X5_checkRange rfl rfl rfl (by decide +kernel) ⟨Nat.le_of_ble_eq_true rfl, Nat.le_of_ble_eq_true rfl⟩) dX5_burn_12 rfl (Nat.le_of_ble_eq_true rfl) ⟨Nat.le_of_ble_eq_true rfl, Nat.le_of_ble_eq_true rfl⟩ rfl ?_
  refine hl_aload_n h 0 dX5_burn_15 rfl ?_
  refine hl_get h hi5 hl_wc_0 rfl 3 rfl dX5_burn_16 (by decide) (by decide +kernel) ?_
  refine hl_iload_n h 1 dX5_burn_19 rfl ?_
  refine hl_callViD h (st := []) (c_X3_ofGuest l D cI cZ cJ a g x M hM (by with_reducible assumption)) (cwV 1 h.2.2.2.2.1 gX5_burn_X3_ofGuest rfl rfl rfl (by decide +kernel) ⟨Nat.le_of_ble_eq_true rfl, Nat.le_of_ble_eq_true rfl⟩) hl_wc_4 rfl dX5_burn_20 rfl (Nat.le_of_ble_eq_true rfl) ⟨Nat.le_of_ble_eq_true rfl, Nat.le_of_ble_eq_true rfl⟩ rfl ?_
  refine hl_iload_n h 3 dX5_burn_23 rfl ?_
  refine hl_icmp_ge_T h 37 dX5_burn_24 (by decide) h5 ?_
  refine hl_aload_n h 0 dX5_burn_37 rfl ?_
  refine hl_iload_n h 1 dX5_burn_38 rfl ?_
  refine hl_iload_n h 2 dX5_burn_39 rfl ?_
  refine hl_iload_n h 3 dX5_burn_40 rfl ?_
  refine hl_callVvD h (st := []) (c_X5_burnEarliest l D cI cZ cJ a g x y q N M ho (by with_reducible assumption)) (cwV 3 h.2.2.2.2.1 gX5_burn_X5_burnEarliest rfl rfl rfl (by decide +kernel) ⟨Nat.le_of_ble_eq_true rfl, Nat.le_of_ble_eq_true rfl⟩) hl_wc_0 rfl dX5_burn_41 rfl (Nat.le_of_ble_eq_true rfl) ⟨Nat.le_of_ble_eq_true rfl, Nat.le_of_ble_eq_true rfl⟩ rfl ?_
  refine hl_nmC (fun g16 e17 => ?_)
  have hm4 : g16 20 0 = nI M := by rw [e17, f_X5_burnEarliest, fr_X5_burnIt x y (by decide) (by decide)]; exact hm
  refine hl_aload_n h 0 dX5_burn_44 rfl ?_
  refine hl_get h hi5 hl_wc_0 rfl 3 rfl dX5_burn_45 (by decide) (by decide +kernel) ?_
  refine hl_iload_n h 1 dX5_burn_48 rfl ?_
  refine hl_callViD h (st := []) (c_X3_ofGuest l D cI cZ cJ a g16 x M hM (by with_reducible assumption)) (cwV 1 h.2.2.2.2.1 gX5_burn_X3_ofGuest rfl rfl rfl (by decide +kernel) ⟨Nat.le_of_ble_eq_true rfl, Nat.le_of_ble_eq_true rfl⟩) hl_wc_4 rfl dX5_burn_49 rfl (Nat.le_of_ble_eq_true rfl) ⟨Nat.le_of_ble_eq_true rfl, Nat.le_of_ble_eq_true rfl⟩ rfl ?_
  exact hend dX5_burn_52 (fun h9 => nomatch h9) (by
    subst e17
    exact ⟨by rfl, (congrArg (hl_WC a cI cZ) (by rfl))⟩)

set_option maxHeartbeats 4000000 in
set_option maxRecDepth 100000 in
theorem c_X5_night (l : Launch) (D : va_G) (cI cZ cJ : ClassId) (a : Nat → Nat) (g : Nat → Nat → Int32) (N M : Nat) (ho : hl_ok g N M) (h1 : g 23 0 < 300) : hl_KI D (hl_ty cI cZ cJ) l yX5_night wsX5_night ({ frames := 1, cells := 0, slots := 0, locals := 23 } : Room) 0 0 [.ref (a 0)] (hl_WC a cI cZ g) (fun r w => r = hl_it (b_X0_missedIn g (g 23 0)) 0 N 0 ∧ w = hl_WC a cI cZ (f_X5_night g)) := by
  refine hl_KI_of (cc := cX5_night) (maxL := 2) .int rfl (fun _ => Or.inr rfl) (by decide) rfl (Nat.le_of_ble_eq_true rfl) ?_
  intro p e s m args below meth c A Q h hend
  have hi5 : ∀ z ∈ wsX50, z ∈ wsX5_night := by decide +kernel
  obtain ⟨hN, hc, hM, hm, hbk, hpt, hbr⟩ := id ho
  refine hl_ls (ls' := [(0, .ref (a 0))]) rfl ?_
  refine hl_aload_n h 0 dX5_night_0 rfl ?_
  refine hl_get h hi5 hl_wc_0 rfl 5 rfl dX5_night_1 (by decide) (by decide +kernel) ?_
  refine hl_sipush h 300 dX5_night_4 (by decide) ?_
  refine hl_icmp_lt_T h 20 dX5_night_7 (by decide) h1 ?_
  refine hl_aload_n h 0 dX5_night_20 rfl ?_
  refine hl_get h hi5 hl_wc_0 rfl 2 rfl dX5_night_21 (by decide) (by decide +kernel) ?_
  refine hl_aload_n h 0 dX5_night_24 rfl ?_
  refine hl_get h hi5 hl_wc_0 rfl 5 rfl dX5_night_25 (by decide) (by decide +kernel) ?_
  refine hl_callViD h (st := []) (c_X0_missedIn l D cI cZ cJ a g (g 23 0) N hN (by with_reducible assumption)) (cwV 1 h.2.2.2.2.1 gX5_night_X0_missedIn rfl rfl rfl (by decide +kernel) ⟨Nat.le_of_ble_eq_true rfl, Nat.le_of_ble_eq_true rfl⟩) hl_wc_3 rfl dX5_night_28 rfl (Nat.le_of_ble_eq_true rfl) ⟨Nat.le_of_ble_eq_true rfl, Nat.le_of_ble_eq_true rfl⟩ rfl ?_
  refine hl_istore_n h [(1, .int (hl_it (b_X0_missedIn g (g 23 0)) 0 N 0)), (0, .ref (a 0))] dX5_night_31 (by decide) rfl ?_
  refine hl_aload_n h 1 dX5_night_32 rfl ?_
  refine hl_get h hi5 hl_wc_0 rfl 0 rfl dX5_night_33 (by decide) (by decide +kernel) ?_
  refine hl_callVvD h (st := []) (c_X4_endNight l D cI cZ cJ a g) (cwV 0 h.2.2.2.2.1 gX5_night_X4_endNight rfl rfl rfl (by decide +kernel) ⟨Nat.le_of_ble_eq_true rfl, Nat.le_of_ble_eq_true rfl⟩) hl_wc_1 rfl dX5_night_36 rfl (Nat.le_of_ble_eq_true rfl) ⟨Nat.le_of_ble_eq_true rfl, Nat.le_of_ble_eq_true rfl⟩ rfl ?_
  refine hl_nmC (fun g7 e8 => ?_)
  refine hl_aload_n h 1 dX5_night_39 rfl ?_
  refine hl_get h hi5 hl_wc_0 rfl 1 rfl dX5_night_40 (by decide) (by decide +kernel) ?_
  refine hl_callVvD h (st := []) (c_X2_endNight l D cI cZ cJ a g7) (cwV 0 h.2.2.2.2.1 gX5_night_X2_endNight rfl rfl rfl (by decide +kernel) ⟨Nat.le_of_ble_eq_true rfl, Nat.le_of_ble_eq_true rfl⟩) hl_wc_2 rfl dX5_night_43 rfl (Nat.le_of_ble_eq_true rfl) ⟨Nat.le_of_ble_eq_true rfl, Nat.le_of_ble_eq_true rfl⟩ rfl ?_
  refine hl_nmC (fun g12 e13 => ?_)
  refine hl_aload_n h 1 dX5_night_46 rfl ?_
  refine hl_dup h dX5_night_47 rfl ?_
  refine hl_get h hi5 hl_wc_0 rfl 5 rfl dX5_night_48 (by decide) (by decide +kernel) ?_
  refine hl_iconst h 1 dX5_night_51 (by decide) ?_
  refine hl_iadd h dX5_night_52 ?_
  refine hl_put h hi5 tyX5_ok nmX5 hl_wc_0 rfl 5 dX5_night_53 (by decide) (by decide +kernel) (by decide) rfl rfl (Nat.le_of_ble_eq_true rfl) hl_wc_s23 ?_
  refine hl_nmC (fun g14 e15 => ?_)
  refine hl_iload_n h 0 dX5_night_56 rfl ?_
  exact hend dX5_night_57 (fun h9 => nomatch h9) (by
    subst e15; subst e13; subst e8
    exact ⟨by rfl, (congrArg (hl_WC a cI cZ) (by rfl))⟩)

set_option maxHeartbeats 4000000 in
set_option maxRecDepth 100000 in
theorem c_X5_settle (l : Launch) (D : va_G) (cI cZ cJ : ClassId) (a : Nat → Nat) (g : Nat → Nat → Int32) : hl_KI D (hl_ty cI cZ cJ) l yX5_settle wsX5_settle ({ frames := 4, cells := 0, slots := 0, locals := 90 } : Room) 0 0 [.ref (a 0)] (hl_WC a cI cZ g) (fun r w => r = (hl_it b_X1_payAll 0 4 (g, 0)).2 ∧ w = hl_WC a cI cZ ((hl_it b_X1_payAll 0 4 (g, 0)).1)) := by
  refine hl_KI_of (cc := cX5_settle) (maxL := 1) .int rfl (fun _ => Or.inr rfl) (by decide) rfl (Nat.le_of_ble_eq_true rfl) ?_
  intro p e s m args below meth c A Q h hend
  have hi5 : ∀ z ∈ wsX50, z ∈ wsX5_settle := by decide +kernel
  refine hl_ls (ls' := [(0, .ref (a 0))]) rfl ?_
  refine hl_aload_n h 0 dX5_settle_0 rfl ?_
  refine hl_get h hi5 hl_wc_0 rfl 4 rfl dX5_settle_1 (by decide) (by decide +kernel) ?_
  refine hl_callViD h (st := []) (c_X1_payAll l D cI cZ cJ a g) (cwV 0 h.2.2.2.2.1 gX5_settle_X1_payAll rfl rfl rfl (by decide +kernel) ⟨Nat.le_of_ble_eq_true rfl, Nat.le_of_ble_eq_true rfl⟩) hl_wc_5 rfl dX5_settle_4 rfl (Nat.le_of_ble_eq_true rfl) ⟨Nat.le_of_ble_eq_true rfl, Nat.le_of_ble_eq_true rfl⟩ rfl ?_
  refine hl_nmC (fun g4 e5 => ?_)
  exact hend dX5_settle_7 (fun h9 => nomatch h9) (by
    subst e5
    exact ⟨by rfl, (congrArg (hl_WC a cI cZ) (by rfl))⟩)

set_option maxHeartbeats 4000000 in
set_option maxRecDepth 100000 in
theorem c_X5_today (l : Launch) (D : va_G) (cI cZ cJ : ClassId) (a : Nat → Nat) (g : Nat → Nat → Int32) : hl_KI D (hl_ty cI cZ cJ) l yX5_today wsX5_today ({ frames := 0, cells := 0, slots := 0, locals := 0 } : Room) 0 0 [.ref (a 0)] (hl_WC a cI cZ g) (fun r w => r = g 23 0 ∧ w = hl_WC a cI cZ g) := by
  refine hl_KI_of (cc := cX5_today) (maxL := 1) .int rfl (fun _ => Or.inr rfl) (by decide) rfl (Nat.le_of_ble_eq_true rfl) ?_
  intro p e s m args below meth c A Q h hend
  have hi5 : ∀ z ∈ wsX50, z ∈ wsX5_today := by decide +kernel
  refine hl_ls (ls' := [(0, .ref (a 0))]) rfl ?_
  refine hl_aload_n h 0 dX5_today_0 rfl ?_
  refine hl_get h hi5 hl_wc_0 rfl 5 rfl dX5_today_1 (by decide) (by decide +kernel) ?_
  exact hend dX5_today_4 (fun h9 => nomatch h9) (by
    exact ⟨by rfl, (congrArg (hl_WC a cI cZ) (by rfl))⟩)

set_option maxHeartbeats 4000000 in
set_option maxRecDepth 100000 in
theorem c_X5_bookings (l : Launch) (D : va_G) (cI cZ cJ : ClassId) (a : Nat → Nat) (g : Nat → Nat → Int32) : hl_KI D (hl_ty cI cZ cJ) l yX5_bookings wsX5_bookings ({ frames := 0, cells := 0, slots := 0, locals := 0 } : Room) 0 0 [.ref (a 0)] (hl_WC a cI cZ g) (fun r w => r = g 16 0 ∧ w = hl_WC a cI cZ g) := by
  refine hl_KI_of (cc := cX5_bookings) (maxL := 1) .int rfl (fun _ => Or.inr rfl) (by decide) rfl (Nat.le_of_ble_eq_true rfl) ?_
  intro p e s m args below meth c A Q h hend
  have hi0 : ∀ z ∈ wsX00, z ∈ wsX5_bookings := by decide +kernel
  have hi5 : ∀ z ∈ wsX50, z ∈ wsX5_bookings := by decide +kernel
  refine hl_ls (ls' := [(0, .ref (a 0))]) rfl ?_
  refine hl_aload_n h 0 dX5_bookings_0 rfl ?_
  refine hl_get h hi5 hl_wc_0 rfl 2 rfl dX5_bookings_1 (by decide) (by decide +kernel) ?_
  refine hl_get h hi0 hl_wc_3 rfl 6 rfl dX5_bookings_4 (by decide) (by decide +kernel) ?_
  exact hend dX5_bookings_7 (fun h9 => nomatch h9) (by
    exact ⟨by rfl, (congrArg (hl_WC a cI cZ) (by rfl))⟩)

set_option maxHeartbeats 4000000 in
set_option maxRecDepth 100000 in
theorem c_X5_free (l : Launch) (D : va_G) (cI cZ cJ : ClassId) (a : Nat → Nat) (g : Nat → Nat → Int32) (x y : Int32) (h1 : vp_in x 4) (h2 : vp_in y 2) : hl_KI D (hl_ty cI cZ cJ) l yX5_free wsX5_free ({ frames := 3, cells := 0, slots := 0, locals := 65 } : Room) 0 0 [.ref (a 0), .int x, .int y] (hl_WC a cI cZ g) (fun r w => r = r_X4_freeOf g x y ∧ w = hl_WC a cI cZ g) := by
  refine hl_KI_of (cc := cX5_free) (maxL := 3) .int rfl (fun _ => Or.inr rfl) (by decide) rfl (Nat.le_of_ble_eq_true rfl) ?_
  intro p e s m args below meth c A Q h hend
  have hi5 : ∀ z ∈ wsX50, z ∈ wsX5_free := by decide +kernel
  refine hl_ls (ls' := [(0, .ref (a 0)), (1, .int x), (2, .int y)]) rfl ?_
  refine hl_iload_n h 1 dX5_free_0 rfl ?_
  refine hl_callSvD h (st := []) (c_X5_checkInn l D cI cZ cJ a g x (by with_reducible assumption)) (va_cwS 1 h.2.2.2.2.1 gX5_free_X5_checkInn rfl rfl rfl (by decide +kernel) ⟨Nat.le_of_ble_eq_true rfl, Nat.le_of_ble_eq_true rfl⟩) dX5_free_1 rfl (Nat.le_of_ble_eq_true rfl) ⟨Nat.le_of_ble_eq_true rfl, Nat.le_of_ble_eq_true rfl⟩ rfl ?_
  refine hl_iload_n h 2 dX5_free_4 rfl ?_
  refine hl_callSvD h (st := []) (c_X5_checkKind l D cI cZ cJ a g y (by with_reducible assumption)) (va_cwS 1 h.2.2.2.2.1 gX5_free_X5_checkKind rfl rfl rfl (by decide +kernel) ⟨Nat.le_of_ble_eq_true rfl, Nat.le_of_ble_eq_true rfl⟩) dX5_free_5 rfl (Nat.le_of_ble_eq_true rfl) ⟨Nat.le_of_ble_eq_true rfl, Nat.le_of_ble_eq_true rfl⟩ rfl ?_
  refine hl_aload_n h 0 dX5_free_8 rfl ?_
  refine hl_get h hi5 hl_wc_0 rfl 0 rfl dX5_free_9 (by decide) (by decide +kernel) ?_
  refine hl_iload_n h 1 dX5_free_12 rfl ?_
  refine hl_iload_n h 2 dX5_free_13 rfl ?_
  refine hl_callViD h (st := []) (c_X4_freeOf l D cI cZ cJ a g x y (by with_reducible assumption) (by with_reducible assumption)) (cwV 2 h.2.2.2.2.1 gX5_free_X4_freeOf rfl rfl rfl (by decide +kernel) ⟨Nat.le_of_ble_eq_true rfl, Nat.le_of_ble_eq_true rfl⟩) hl_wc_1 rfl dX5_free_14 rfl (Nat.le_of_ble_eq_true rfl) ⟨Nat.le_of_ble_eq_true rfl, Nat.le_of_ble_eq_true rfl⟩ rfl ?_
  exact hend dX5_free_17 (fun h9 => nomatch h9) (by
    exact ⟨by rfl, (congrArg (hl_WC a cI cZ) (by rfl))⟩)

set_option maxHeartbeats 4000000 in
set_option maxRecDepth 100000 in
theorem c_X5_taken (l : Launch) (D : va_G) (cI cZ cJ : ClassId) (a : Nat → Nat) (g : Nat → Nat → Int32) (x y : Int32) (h1 : vp_in x 4) (h2 : vp_in y 2) : hl_KI D (hl_ty cI cZ cJ) l yX5_taken wsX5_taken ({ frames := 2, cells := 0, slots := 0, locals := 43 } : Room) 0 0 [.ref (a 0), .int x, .int y] (hl_WC a cI cZ g) (fun r w => r = g 2 (x * 2 + y).toNatClampNeg ∧ w = hl_WC a cI cZ g) := by
  refine hl_KI_of (cc := cX5_taken) (maxL := 3) .int rfl (fun _ => Or.inr rfl) (by decide) rfl (Nat.le_of_ble_eq_true rfl) ?_
  intro p e s m args below meth c A Q h hend
  have hi5 : ∀ z ∈ wsX50, z ∈ wsX5_taken := by decide +kernel
  refine hl_ls (ls' := [(0, .ref (a 0)), (1, .int x), (2, .int y)]) rfl ?_
  refine hl_iload_n h 1 dX5_taken_0 rfl ?_
  refine hl_callSvD h (st := []) (c_X5_checkInn l D cI cZ cJ a g x (by with_reducible assumption)) (va_cwS 1 h.2.2.2.2.1 gX5_taken_X5_checkInn rfl rfl rfl (by decide +kernel) ⟨Nat.le_of_ble_eq_true rfl, Nat.le_of_ble_eq_true rfl⟩) dX5_taken_1 rfl (Nat.le_of_ble_eq_true rfl) ⟨Nat.le_of_ble_eq_true rfl, Nat.le_of_ble_eq_true rfl⟩ rfl ?_
  refine hl_iload_n h 2 dX5_taken_4 rfl ?_
  refine hl_callSvD h (st := []) (c_X5_checkKind l D cI cZ cJ a g y (by with_reducible assumption)) (va_cwS 1 h.2.2.2.2.1 gX5_taken_X5_checkKind rfl rfl rfl (by decide +kernel) ⟨Nat.le_of_ble_eq_true rfl, Nat.le_of_ble_eq_true rfl⟩) dX5_taken_5 rfl (Nat.le_of_ble_eq_true rfl) ⟨Nat.le_of_ble_eq_true rfl, Nat.le_of_ble_eq_true rfl⟩ rfl ?_
  refine hl_aload_n h 0 dX5_taken_8 rfl ?_
  refine hl_get h hi5 hl_wc_0 rfl 0 rfl dX5_taken_9 (by decide) (by decide +kernel) ?_
  refine hl_iload_n h 1 dX5_taken_12 rfl ?_
  refine hl_iload_n h 2 dX5_taken_13 rfl ?_
  refine hl_callViD h (st := []) (c_X4_sleepersOf l D cI cZ cJ a g x y (by with_reducible assumption) (by with_reducible assumption)) (cwV 2 h.2.2.2.2.1 gX5_taken_X4_sleepersOf rfl rfl rfl (by decide +kernel) ⟨Nat.le_of_ble_eq_true rfl, Nat.le_of_ble_eq_true rfl⟩) hl_wc_1 rfl dX5_taken_14 rfl (Nat.le_of_ble_eq_true rfl) ⟨Nat.le_of_ble_eq_true rfl, Nat.le_of_ble_eq_true rfl⟩ rfl ?_
  exact hend dX5_taken_17 (fun h9 => nomatch h9) (by
    exact ⟨by rfl, (congrArg (hl_WC a cI cZ) (by rfl))⟩)

set_option maxHeartbeats 4000000 in
set_option maxRecDepth 100000 in
theorem c_X5_takenByBookings (l : Launch) (D : va_G) (cI cZ cJ : ClassId) (a : Nat → Nat) (g : Nat → Nat → Int32) (x y : Int32) (N M : Nat) (ho : hl_ok g N M) (h1 : vp_in x 4) (h2 : vp_in y 2) : hl_KI D (hl_ty cI cZ cJ) l yX5_takenByBookings wsX5_takenByBookings ({ frames := 1, cells := 0, slots := 0, locals := 25 } : Room) 0 0 [.ref (a 0), .int x, .int y] (hl_WC a cI cZ g) (fun r w => r = hl_it (b_X0_sleepersAt g x y (g 23 0)) 0 N 0 ∧ w = hl_WC a cI cZ g) := by
  refine hl_KI_of (cc := cX5_takenByBookings) (maxL := 3) .int rfl (fun _ => Or.inr rfl) (by decide) rfl (Nat.le_of_ble_eq_true rfl) ?_
  intro p e s m args below meth c A Q h hend
  have hi5 : ∀ z ∈ wsX50, z ∈ wsX5_takenByBookings := by decide +kernel
  obtain ⟨hN, hc, hM, hm, hbk, hpt, hbr⟩ := id ho
  refine hl_ls (ls' := [(0, .ref (a 0)), (1, .int x), (2, .int y)]) rfl ?_
  refine hl_iload_n h 1 dX5_takenByBookings_0 rfl ?_
  refine hl_callSvD h (st := []) (c_X5_checkInn l D cI cZ cJ a g x (by with_reducible assumption)) (va_cwS 1 h.2.2.2.2.1 gX5_takenByBookings_X5_checkInn rfl rfl rfl (by decide +kernel) ⟨Nat.le_of_ble_eq_true rfl, Nat.le_of_ble_eq_true rfl⟩) dX5_takenByBookings_1 rfl (Nat.le_of_ble_eq_true rfl) ⟨Nat.le_of_ble_eq_true rfl, Nat.le_of_ble_eq_true rfl⟩ rfl ?_
  refine hl_iload_n h 2 dX5_takenByBookings_4 rfl ?_
  refine hl_callSvD h (st := []) (c_X5_checkKind l D cI cZ cJ a g y (by with_reducible assumption)) (va_cwS 1 h.2.2.2.2.1 gX5_takenByBookings_X5_checkKind rfl rfl rfl (by decide +kernel) ⟨Nat.le_of_ble_eq_true rfl, Nat.le_of_ble_eq_true rfl⟩) dX5_takenByBookings_5 rfl (Nat.le_of_ble_eq_true rfl) ⟨Nat.le_of_ble_eq_true rfl, Nat.le_of_ble_eq_true rfl⟩ rfl ?_
  refine hl_aload_n h 0 dX5_takenByBookings_8 rfl ?_
  refine hl_get h hi5 hl_wc_0 rfl 2 rfl dX5_takenByBookings_9 (by decide) (by decide +kernel) ?_
  refine hl_iload_n h 1 dX5_takenByBookings_12 rfl ?_
  refine hl_iload_n h 2 dX5_takenByBookings_13 rfl ?_
  refine hl_aload_n h 0 dX5_takenByBookings_14 rfl ?_
  refine hl_get h hi5 hl_wc_0 rfl 5 rfl dX5_takenByBookings_15 (by decide) (by decide +kernel) ?_
  refine hl_callViD h (st := []) (c_X0_sleepersAt l D cI cZ cJ a g x y (g 23 0) N hN (by with_reducible assumption)) (cwV 3 h.2.2.2.2.1 gX5_takenByBookings_X0_sleepersAt rfl rfl rfl (by decide +kernel) ⟨Nat.le_of_ble_eq_true rfl, Nat.le_of_ble_eq_true rfl⟩) hl_wc_3 rfl dX5_takenByBookings_18 rfl (Nat.le_of_ble_eq_true rfl) ⟨Nat.le_of_ble_eq_true rfl, Nat.le_of_ble_eq_true rfl⟩ rfl ?_
  exact hend dX5_takenByBookings_21 (fun h9 => nomatch h9) (by
    exact ⟨by rfl, (congrArg (hl_WC a cI cZ) (by rfl))⟩)

set_option maxHeartbeats 4000000 in
set_option maxRecDepth 100000 in
theorem c_X5_extra (l : Launch) (D : va_G) (cI cZ cJ : ClassId) (a : Nat → Nat) (g : Nat → Nat → Int32) (x : Int32) (N M : Nat) (ho : hl_ok g N M) (h1 : vp_in x 4) : hl_KI D (hl_ty cI cZ cJ) l yX5_extra wsX5_extra ({ frames := 2, cells := 0, slots := 0, locals := 46 } : Room) 0 0 [.ref (a 0), .int x] (hl_WC a cI cZ g) (fun r w => r = r_X5_extraOf g N x ∧ w = hl_WC a cI cZ g) := by
  refine hl_KI_of (cc := cX5_extra) (maxL := 2) .int rfl (fun _ => Or.inr rfl) (by decide) rfl (Nat.le_of_ble_eq_true rfl) ?_
  intro p e s m args below meth c A Q h hend
  refine hl_ls (ls' := [(0, .ref (a 0)), (1, .int x)]) rfl ?_
  refine hl_iload_n h 1 dX5_extra_0 rfl ?_
  refine hl_callSvD h (st := []) (c_X5_checkInn l D cI cZ cJ a g x (by with_reducible assumption)) (va_cwS 1 h.2.2.2.2.1 gX5_extra_X5_checkInn rfl rfl rfl (by decide +kernel) ⟨Nat.le_of_ble_eq_true rfl, Nat.le_of_ble_eq_true rfl⟩) dX5_extra_1 rfl (Nat.le_of_ble_eq_true rfl) ⟨Nat.le_of_ble_eq_true rfl, Nat.le_of_ble_eq_true rfl⟩ rfl ?_
  refine hl_aload_n h 0 dX5_extra_4 rfl ?_
  refine hl_iload_n h 1 dX5_extra_5 rfl ?_
  refine hl_callViD h (st := []) (c_X5_extraOf l D cI cZ cJ a g x N M ho) (cwV 1 h.2.2.2.2.1 gX5_extra_X5_extraOf rfl rfl rfl (by decide +kernel) ⟨Nat.le_of_ble_eq_true rfl, Nat.le_of_ble_eq_true rfl⟩) hl_wc_0 rfl dX5_extra_6 rfl (Nat.le_of_ble_eq_true rfl) ⟨Nat.le_of_ble_eq_true rfl, Nat.le_of_ble_eq_true rfl⟩ rfl ?_
  exact hend dX5_extra_9 (fun h9 => nomatch h9) (by
    exact ⟨by rfl, (congrArg (hl_WC a cI cZ) (by rfl))⟩)

set_option maxHeartbeats 4000000 in
set_option maxRecDepth 100000 in
theorem c_X5_clean (l : Launch) (D : va_G) (cI cZ cJ : ClassId) (a : Nat → Nat) (g : Nat → Nat → Int32) (x : Int32) (h1 : vp_in x 4) : hl_KI D (hl_ty cI cZ cJ) l yX5_clean wsX5_clean ({ frames := 1, cells := 0, slots := 0, locals := 20 } : Room) 0 0 [.ref (a 0), .int x] (hl_WC a cI cZ g) (fun r w => r = g 3 x.toNatClampNeg ∧ w = hl_WC a cI cZ g) := by
  refine hl_KI_of (cc := cX5_clean) (maxL := 2) .int rfl (fun _ => Or.inr rfl) (by decide) rfl (Nat.le_of_ble_eq_true rfl) ?_
  intro p e s m args below meth c A Q h hend
  have hi2 : ∀ z ∈ wsX20, z ∈ wsX5_clean := by decide +kernel
  have hi5 : ∀ z ∈ wsX50, z ∈ wsX5_clean := by decide +kernel
  refine hl_ls (ls' := [(0, .ref (a 0)), (1, .int x)]) rfl ?_
  refine hl_iload_n h 1 dX5_clean_0 rfl ?_
  refine hl_callSvD h (st := []) (c_X5_checkInn l D cI cZ cJ a g x (by with_reducible assumption)) (va_cwS 1 h.2.2.2.2.1 gX5_clean_X5_checkInn rfl rfl rfl (by decide +kernel) ⟨Nat.le_of_ble_eq_true rfl, Nat.le_of_ble_eq_true rfl⟩) dX5_clean_1 rfl (Nat.le_of_ble_eq_true rfl) ⟨Nat.le_of_ble_eq_true rfl, Nat.le_of_ble_eq_true rfl⟩ rfl ?_
  refine hl_aload_n h 0 dX5_clean_4 rfl ?_
  refine hl_get h hi5 hl_wc_0 rfl 1 rfl dX5_clean_5 (by decide) (by decide +kernel) ?_
  refine hl_get h hi2 hl_wc_2 rfl 0 rfl dX5_clean_8 (by decide) (by decide +kernel) ?_
  refine hl_iload_n h 1 dX5_clean_11 rfl ?_
  refine hl_ild h hl_wc_9 0 rfl dX5_clean_12 (by with_reducible assumption) ?_
  exact hend dX5_clean_13 (fun h9 => nomatch h9) (by
    exact ⟨by rfl, (congrArg (hl_WC a cI cZ) (by rfl))⟩)

set_option maxHeartbeats 4000000 in
set_option maxRecDepth 100000 in
theorem c_X5_away (l : Launch) (D : va_G) (cI cZ cJ : ClassId) (a : Nat → Nat) (g : Nat → Nat → Int32) (x : Int32) (h1 : vp_in x 4) : hl_KI D (hl_ty cI cZ cJ) l yX5_away wsX5_away ({ frames := 1, cells := 0, slots := 0, locals := 21 } : Room) 0 0 [.ref (a 0), .int x] (hl_WC a cI cZ g) (fun r w => r = r_X2_awayOf g x ∧ w = hl_WC a cI cZ g) := by
  refine hl_KI_of (cc := cX5_away) (maxL := 2) .int rfl (fun _ => Or.inr rfl) (by decide) rfl (Nat.le_of_ble_eq_true rfl) ?_
  intro p e s m args below meth c A Q h hend
  have hi5 : ∀ z ∈ wsX50, z ∈ wsX5_away := by decide +kernel
  refine hl_ls (ls' := [(0, .ref (a 0)), (1, .int x)]) rfl ?_
  refine hl_iload_n h 1 dX5_away_0 rfl ?_
  refine hl_callSvD h (st := []) (c_X5_checkInn l D cI cZ cJ a g x (by with_reducible assumption)) (va_cwS 1 h.2.2.2.2.1 gX5_away_X5_checkInn rfl rfl rfl (by decide +kernel) ⟨Nat.le_of_ble_eq_true rfl, Nat.le_of_ble_eq_true rfl⟩) dX5_away_1 rfl (Nat.le_of_ble_eq_true rfl) ⟨Nat.le_of_ble_eq_true rfl, Nat.le_of_ble_eq_true rfl⟩ rfl ?_
  refine hl_aload_n h 0 dX5_away_4 rfl ?_
  refine hl_get h hi5 hl_wc_0 rfl 1 rfl dX5_away_5 (by decide) (by decide +kernel) ?_
  refine hl_iload_n h 1 dX5_away_8 rfl ?_
  refine hl_callViD h (st := []) (c_X2_awayOf l D cI cZ cJ a g x (by with_reducible assumption)) (cwV 1 h.2.2.2.2.1 gX5_away_X2_awayOf rfl rfl rfl (by decide +kernel) ⟨Nat.le_of_ble_eq_true rfl, Nat.le_of_ble_eq_true rfl⟩) hl_wc_2 rfl dX5_away_9 rfl (Nat.le_of_ble_eq_true rfl) ⟨Nat.le_of_ble_eq_true rfl, Nat.le_of_ble_eq_true rfl⟩ rfl ?_
  exact hend dX5_away_12 (fun h9 => nomatch h9) (by
    exact ⟨by rfl, (congrArg (hl_WC a cI cZ) (by rfl))⟩)

set_option maxHeartbeats 4000000 in
set_option maxRecDepth 100000 in
theorem c_X5_sleeps (l : Launch) (D : va_G) (cI cZ cJ : ClassId) (a : Nat → Nat) (g : Nat → Nat → Int32) (x : Int32) (N M : Nat) (ho : hl_ok g N M) (h1 : ¬ x < 0) (h2 : x < g 16 0) : hl_KI D (hl_ty cI cZ cJ) l yX5_sleeps wsX5_sleeps ({ frames := 1, cells := 0, slots := 0, locals := 21 } : Room) 0 0 [.ref (a 0), .int x] (hl_WC a cI cZ g) (fun r w => r = g 15 x.toNatClampNeg ∧ w = hl_WC a cI cZ g) := by
  refine hl_KI_of (cc := cX5_sleeps) (maxL := 2) .int rfl (fun _ => Or.inr rfl) (by decide) rfl (Nat.le_of_ble_eq_true rfl) ?_
  intro p e s m args below meth c A Q h hend
  have hi0 : ∀ z ∈ wsX00, z ∈ wsX5_sleeps := by decide +kernel
  have hi5 : ∀ z ∈ wsX50, z ∈ wsX5_sleeps := by decide +kernel
  obtain ⟨hN, hc, hM, hm, hbk, hpt, hbr⟩ := id ho
  have hxN : vp_in x N := by
    refine vp_in_iff.mpr ⟨?_, ?_⟩
    · exact Int.not_lt.mp (fun z => h1 (Int32.lt_iff_toInt_lt.mpr z))
    · have z := Int32.lt_iff_toInt_lt.mp h2
      rw [hc, nI_toInt (by omega)] at z
      exact z
  have hxn : x.toNatClampNeg < N := Nat.not_le.mp (fun z => hxN (Or.inr z))
  have hx80 : vp_in x 80 := fun z => hxN (z.elim Or.inl (fun z => Or.inr (by omega)))
  have hin : vp_in (g 11 x.toNatClampNeg) 4 := (hbk _ hxn).1
  have hkd : vp_in (g 12 x.toNatClampNeg) 2 := (hbk _ hxn).2
  refine hl_ls (ls' := [(0, .ref (a 0)), (1, .int x)]) rfl ?_
  refine hl_aload_n h 0 dX5_sleeps_0 rfl ?_
  refine hl_iload_n h 1 dX5_sleeps_1 rfl ?_
  refine hl_callVvD h (st := []) (c_X5_checkBooking l D cI cZ cJ a g x (by with_reducible assumption) (by with_reducible assumption)) (cwV 1 h.2.2.2.2.1 gX5_sleeps_X5_checkBooking rfl rfl rfl (by decide +kernel) ⟨Nat.le_of_ble_eq_true rfl, Nat.le_of_ble_eq_true rfl⟩) hl_wc_0 rfl dX5_sleeps_2 rfl (Nat.le_of_ble_eq_true rfl) ⟨Nat.le_of_ble_eq_true rfl, Nat.le_of_ble_eq_true rfl⟩ rfl ?_
  refine hl_aload_n h 0 dX5_sleeps_5 rfl ?_
  refine hl_get h hi5 hl_wc_0 rfl 2 rfl dX5_sleeps_6 (by decide) (by decide +kernel) ?_
  refine hl_get h hi0 hl_wc_3 rfl 5 rfl dX5_sleeps_9 (by decide) (by decide +kernel) ?_
  refine hl_iload_n h 1 dX5_sleeps_12 rfl ?_
  refine hl_ild h hl_wc_19 0 rfl dX5_sleeps_13 (by with_reducible assumption) ?_
  exact hend dX5_sleeps_14 (fun h9 => nomatch h9) (by
    exact ⟨by rfl, (congrArg (hl_WC a cI cZ) (by rfl))⟩)

set_option maxHeartbeats 4000000 in
set_option maxRecDepth 100000 in
theorem c_X5_points (l : Launch) (D : va_G) (cI cZ cJ : ClassId) (a : Nat → Nat) (g : Nat → Nat → Int32) (x : Int32) (N M : Nat) (ho : hl_ok g N M) (h1 : vp_in x 10) : hl_KI D (hl_ty cI cZ cJ) l yX5_points wsX5_points ({ frames := 1, cells := 0, slots := 0, locals := 23 } : Room) 0 0 [.ref (a 0), .int x] (hl_WC a cI cZ g) (fun r w => r = hl_it (b_X3_ofGuest g x) 0 M 0 ∧ w = hl_WC a cI cZ g) := by
  refine hl_KI_of (cc := cX5_points) (maxL := 2) .int rfl (fun _ => Or.inr rfl) (by decide) rfl (Nat.le_of_ble_eq_true rfl) ?_
  intro p e s m args below meth c A Q h hend
  have hi5 : ∀ z ∈ wsX50, z ∈ wsX5_points := by decide +kernel
  obtain ⟨hN, hc, hM, hm, hbk, hpt, hbr⟩ := id ho
  refine hl_ls (ls' := [(0, .ref (a 0)), (1, .int x)]) rfl ?_
  refine hl_iload_n h 1 dX5_points_0 rfl ?_
  refine hl_callSvD h (st := []) (c_X5_checkGuest l D cI cZ cJ a g x (by with_reducible assumption)) (va_cwS 1 h.2.2.2.2.1 gX5_points_X5_checkGuest rfl rfl rfl (by decide +kernel) ⟨Nat.le_of_ble_eq_true rfl, Nat.le_of_ble_eq_true rfl⟩) dX5_points_1 rfl (Nat.le_of_ble_eq_true rfl) ⟨Nat.le_of_ble_eq_true rfl, Nat.le_of_ble_eq_true rfl⟩ rfl ?_
  refine hl_aload_n h 0 dX5_points_4 rfl ?_
  refine hl_get h hi5 hl_wc_0 rfl 3 rfl dX5_points_5 (by decide) (by decide +kernel) ?_
  refine hl_iload_n h 1 dX5_points_8 rfl ?_
  refine hl_callViD h (st := []) (c_X3_ofGuest l D cI cZ cJ a g x M hM (by with_reducible assumption)) (cwV 1 h.2.2.2.2.1 gX5_points_X3_ofGuest rfl rfl rfl (by decide +kernel) ⟨Nat.le_of_ble_eq_true rfl, Nat.le_of_ble_eq_true rfl⟩) hl_wc_4 rfl dX5_points_9 rfl (Nat.le_of_ble_eq_true rfl) ⟨Nat.le_of_ble_eq_true rfl, Nat.le_of_ble_eq_true rfl⟩ rfl ?_
  exact hend dX5_points_12 (fun h9 => nomatch h9) (by
    exact ⟨by rfl, (congrArg (hl_WC a cI cZ) (by rfl))⟩)

set_option maxHeartbeats 4000000 in
set_option maxRecDepth 100000 in
theorem c_X5_owes (l : Launch) (D : va_G) (cI cZ cJ : ClassId) (a : Nat → Nat) (g : Nat → Nat → Int32) (x y : Int32) (h1 : vp_in x 4) (h2 : vp_in y 4) : hl_KI D (hl_ty cI cZ cJ) l yX5_owes wsX5_owes ({ frames := 2, cells := 0, slots := 0, locals := 43 } : Room) 0 0 [.ref (a 0), .int x, .int y] (hl_WC a cI cZ g) (fun r w => r = r_X1_between g x y ∧ w = hl_WC a cI cZ g) := by
  refine hl_KI_of (cc := cX5_owes) (maxL := 3) .int rfl (fun _ => Or.inr rfl) (by decide) rfl (Nat.le_of_ble_eq_true rfl) ?_
  intro p e s m args below meth c A Q h hend
  have hi5 : ∀ z ∈ wsX50, z ∈ wsX5_owes := by decide +kernel
  refine hl_ls (ls' := [(0, .ref (a 0)), (1, .int x), (2, .int y)]) rfl ?_
  refine hl_iload_n h 1 dX5_owes_0 rfl ?_
  refine hl_callSvD h (st := []) (c_X5_checkInn l D cI cZ cJ a g x (by with_reducible assumption)) (va_cwS 1 h.2.2.2.2.1 gX5_owes_X5_checkInn rfl rfl rfl (by decide +kernel) ⟨Nat.le_of_ble_eq_true rfl, Nat.le_of_ble_eq_true rfl⟩) dX5_owes_1 rfl (Nat.le_of_ble_eq_true rfl) ⟨Nat.le_of_ble_eq_true rfl, Nat.le_of_ble_eq_true rfl⟩ rfl ?_
  refine hl_iload_n h 2 dX5_owes_4 rfl ?_
  refine hl_callSvD h (st := []) (c_X5_checkInn l D cI cZ cJ a g y (by with_reducible assumption)) (va_cwS 1 h.2.2.2.2.1 gX5_owes_X5_checkInn rfl rfl rfl (by decide +kernel) ⟨Nat.le_of_ble_eq_true rfl, Nat.le_of_ble_eq_true rfl⟩) dX5_owes_5 rfl (Nat.le_of_ble_eq_true rfl) ⟨Nat.le_of_ble_eq_true rfl, Nat.le_of_ble_eq_true rfl⟩ rfl ?_
  refine hl_aload_n h 0 dX5_owes_8 rfl ?_
  refine hl_get h hi5 hl_wc_0 rfl 4 rfl dX5_owes_9 (by decide) (by decide +kernel) ?_
  refine hl_iload_n h 1 dX5_owes_12 rfl ?_
  refine hl_iload_n h 2 dX5_owes_13 rfl ?_
  refine hl_callViD h (st := []) (c_X1_between l D cI cZ cJ a g x y (by with_reducible assumption) (by with_reducible assumption)) (cwV 2 h.2.2.2.2.1 gX5_owes_X1_between rfl rfl rfl (by decide +kernel) ⟨Nat.le_of_ble_eq_true rfl, Nat.le_of_ble_eq_true rfl⟩) hl_wc_5 rfl dX5_owes_14 rfl (Nat.le_of_ble_eq_true rfl) ⟨Nat.le_of_ble_eq_true rfl, Nat.le_of_ble_eq_true rfl⟩ rfl ?_
  exact hend dX5_owes_17 (fun h9 => nomatch h9) (by
    exact ⟨by rfl, (congrArg (hl_WC a cI cZ) (by rfl))⟩)

set_option maxHeartbeats 4000000 in
set_option maxRecDepth 100000 in
theorem c_X5_purse (l : Launch) (D : va_G) (cI cZ cJ : ClassId) (a : Nat → Nat) (g : Nat → Nat → Int32) (x : Int32) (h1 : vp_in x 4) : hl_KI D (hl_ty cI cZ cJ) l yX5_purse wsX5_purse ({ frames := 1, cells := 0, slots := 0, locals := 20 } : Room) 0 0 [.ref (a 0), .int x] (hl_WC a cI cZ g) (fun r w => r = g 21 x.toNatClampNeg ∧ w = hl_WC a cI cZ g) := by
  refine hl_KI_of (cc := cX5_purse) (maxL := 2) .int rfl (fun _ => Or.inr rfl) (by decide) rfl (Nat.le_of_ble_eq_true rfl) ?_
  intro p e s m args below meth c A Q h hend
  have hi1 : ∀ z ∈ wsX10, z ∈ wsX5_purse := by decide +kernel
  have hi5 : ∀ z ∈ wsX50, z ∈ wsX5_purse := by decide +kernel
  refine hl_ls (ls' := [(0, .ref (a 0)), (1, .int x)]) rfl ?_
  refine hl_iload_n h 1 dX5_purse_0 rfl ?_
  refine hl_callSvD h (st := []) (c_X5_checkInn l D cI cZ cJ a g x (by with_reducible assumption)) (va_cwS 1 h.2.2.2.2.1 gX5_purse_X5_checkInn rfl rfl rfl (by decide +kernel) ⟨Nat.le_of_ble_eq_true rfl, Nat.le_of_ble_eq_true rfl⟩) dX5_purse_1 rfl (Nat.le_of_ble_eq_true rfl) ⟨Nat.le_of_ble_eq_true rfl, Nat.le_of_ble_eq_true rfl⟩ rfl ?_
  refine hl_aload_n h 0 dX5_purse_4 rfl ?_
  refine hl_get h hi5 hl_wc_0 rfl 4 rfl dX5_purse_5 (by decide) (by decide +kernel) ?_
  refine hl_get h hi1 hl_wc_5 rfl 0 rfl dX5_purse_8 (by decide) (by decide +kernel) ?_
  refine hl_iload_n h 1 dX5_purse_11 rfl ?_
  refine hl_ild h hl_wc_23 0 rfl dX5_purse_12 (by with_reducible assumption) ?_
  exact hend dX5_purse_13 (fun h9 => nomatch h9) (by
    exact ⟨by rfl, (congrArg (hl_WC a cI cZ) (by rfl))⟩)
end
