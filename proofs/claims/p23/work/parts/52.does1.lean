/-! The law: does, case by case -/
set_option maxHeartbeats 4000000 in
set_option maxRecDepth 100000 in
theorem d_setRooms {p : Program} {l : Launch} {e : Env} {s : State} {m : MethodId} {args : Array Value} {below : List Frame} {meth : Method} {c : Code} {D : va_G} {cI cZ cJ : ClassId} {A : Nat → Prop} {Q : State → Prop} {a : Nat → Nat} {cn : Nat} {lin : Int32} {N M T P : Nat} {t g r : Nat → Nat → Int32} (hc : cn < 100) (hJ : hp_J cn lin N M T P t g r) (h : hl_C p s m args c cL_does 19 wsL_does RL D (hl_ty cI cZ cJ) A) {V W I K : Nat} (hW : W < 2147483648) (hI : I < 4) (hK : K < 2) {J : Int32}  (hend : ∀ {r9 g9 : Nat → Nat → Int32} {pc : Nat} {ls : List (Nat × Value)}, decode cL_does pc = .ok (.ireturn, 1) → hp_I (cn + 1) lin g9 r9 → hl_X p l e ({ frames := 5, cells := 0, slots := 0, locals := 113 } : Room) s m args below meth c 19 D A 0 0 Q (hl_LW a cI cZ r9 g9) pc ls [.int 1]) :
    hl_X p l e ({ frames := 5, cells := 0, slots := 0, locals := 113 } : Room) s m args below meth c 19 D A 0 0 Q (hl_LW a cI cZ r g) 112 [(0, .ref (a 0)), (1, .ref (a 25)), (2, .ref (a 26)), (3, .ref (a 27)), (4, .ref (a 28)), (5, .int (nI V)), (6, .int (nI W)), (7, .int (nI I)), (8, .int (nI K)), (9, .int (nI N)), (10, .int J)] [] := by
  obtain ⟨j0, jR, jN, jT, jB, jS, jrm, jl, jp, jP, j60⟩ := id hJ
  have hok : hl_ok g N M := jR.1
  obtain ⟨hN, hcc, hM, hm, hbk, hpt, hbr⟩ := id hok
  have h23 : g 23 0 = nI T := jR.2.1.2
  have vI : vp_in (nI I) 4 := vp_in_nI hI (by decide)
  have vK : vp_in (nI K) 2 := vp_in_nI hK (by decide)
  refine hl_aload_n h 1 dL_does_112 rfl ?_
  refine hl_iconst h 2 dL_does_113 (by decide) ?_
  refine hl_iload h 7 dL_does_114 rfl ?_
  refine hl_imul h dL_does_116 ?_
  refine hl_topc (nI (2 * I)) (pk_mul _ _) ?_
  refine hl_iload h 8 dL_does_117 rfl ?_
  refine hl_iadd h dL_does_119 ?_
  refine hl_topc (nI ((2 * I) + K)) (nI_add _ _) ?_
  refine hl_ildN h hl_lw_0 0 rfl (((2 * I) + K)) dL_does_120 rfl (by omega) (by decide) ?_
  refine hl_istore h [(11, .int (r 0 (((2 * I) + K)))), (0, .ref (a 0)), (1, .ref (a 25)), (2, .ref (a 26)), (3, .ref (a 27)), (4, .ref (a 28)), (5, .int (nI V)), (6, .int (nI W)), (7, .int (nI I)), (8, .int (nI K)), (9, .int (nI N)), (10, .int J)] dL_does_121 (by decide) rfl ?_
  refine hl_aload_n h 2 dL_does_123 rfl ?_
  refine hl_iconst h 2 dL_does_124 (by decide) ?_
  refine hl_iload h 8 dL_does_125 rfl ?_
  refine hl_imul h dL_does_127 ?_
  refine hl_topc (nI (2 * I)) (pk_mul _ _) ?_
  refine hl_iload h 9 dL_does_128 rfl ?_
  refine hl_iadd h dL_does_130 ?_
  refine hl_topc (nI ((2 * I) + K)) (nI_add _ _) ?_
  refine hl_iload h 7 dL_does_131 rfl ?_
  refine hl_iconst h 5 dL_does_133 (by decide) ?_
  refine hl_irem h dL_does_134 (by decide) ?_
  refine hl_topc (nI (W % 5)) (pk_rem (a := W) (d := 5) (by omega) (by omega) (by omega)) ?_
  refine hl_istN h hl_lw_0 0 rfl (((2 * I) + K)) dL_does_135 rfl (by omega) (by decide) hl_lw_t0 ?_
  refine hl_nmPR (fun r1 e2 => ?_)
  refine hl_aload_n h 1 dL_does_136 rfl ?_
  refine hl_iload h 8 dL_does_137 rfl ?_
  refine hl_iload h 9 dL_does_139 rfl ?_
  refine hl_iload h 7 dL_does_141 rfl ?_
  refine hl_iconst h 5 dL_does_143 (by decide) ?_
  refine hl_irem h dL_does_144 (by decide) ?_
  refine hl_topc (nI (W % 5)) (pk_rem (a := W) (d := 5) (by omega) (by omega) (by omega)) ?_
  refine hl_iconst h 1 dL_does_145 (by decide) ?_
  refine hl_iload h 7 dL_does_146 rfl ?_
  refine hl_iconst h 5 dL_does_148 (by decide) ?_
  refine hl_idiv h dL_does_149 (by decide) ?_
  refine hl_topc (nI (W / 5)) (pk_div (a := W) (d := 5) (by omega) (by omega) (by omega)) ?_
  refine hl_bipush h 100 dL_does_150 (by decide) ?_
  refine hl_irem h dL_does_152 (by decide) ?_
  refine hl_topc (nI ((W / 5) % 100)) (pk_rem (a := (W / 5)) (d := 100) (by omega) (by omega) (by omega)) ?_
  refine hl_iadd h dL_does_153 ?_
  refine hl_topc (nI (1 + ((W / 5) % 100))) (nI_add _ _) ?_
  refine hl_callPViD h (st := []) (wc := hl_WC a cI cZ g) (wr := hl_LR a cI r1) [4, 5, 6, 7, 8, 9, 10, 11, 12, 13, 14, 15, 16, 17, 18, 19, 20, 21, 22, 23, 24, 25, 26, 27, 28] [0, 1, 2, 3] rfl rfl (by decide) (by decide) (by decide) (c_X5_setRooms l D cI cZ cJ a g (nI I) (nI K) (nI (W % 5)) (nI (1 + ((W / 5) % 100))) vI vK (nI_pos (by omega)) (nI_le (b := 10) (by omega) (by omega)) (nI_nlt (b := 1) (by omega) (by omega)) (nI_le (b := 100) (by omega) (by omega))) (cwV 4 h.2.2.2.2.1 gL_does_X5_setRooms rfl rfl rfl (by decide +kernel) ⟨Nat.le_of_ble_eq_true rfl, Nat.le_of_ble_eq_true rfl⟩) hl_lw_4 rfl dL_does_154 rfl (Nat.le_of_ble_eq_true rfl) ⟨Nat.le_of_ble_eq_true rfl, Nat.le_of_ble_eq_true rfl⟩ rfl ?_
  refine hl_wd (w' := hl_LW a cI cZ r1 (f_X4_change g (nI I) (nI K) (nI (W % 5)) (nI (1 + ((W / 5) % 100))))) rfl ?_
  refine hl_nmPG (fun g3 e4 => ?_)
  refine hl_iload h 0 dL_does_157 rfl ?_
  refine hl_icmp_ne_F h 166 dL_does_159 (by decide) (hp_rooms jrm hI hK) ?_
  refine hl_iconst h 1 dL_does_162 (by decide) ?_
  refine hl_goto h 167 dL_does_163 (by decide) ?_
  exact hend dL_does_167 (by rw [e4, e2]; exact hp_setRooms hc hJ hI hK (by omega) (by omega) (by omega))

set_option maxHeartbeats 4000000 in
set_option maxRecDepth 100000 in
theorem d_buyLinen {p : Program} {l : Launch} {e : Env} {s : State} {m : MethodId} {args : Array Value} {below : List Frame} {meth : Method} {c : Code} {D : va_G} {cI cZ cJ : ClassId} {A : Nat → Prop} {Q : State → Prop} {a : Nat → Nat} {cn : Nat} {lin : Int32} {N M T P : Nat} {t g r : Nat → Nat → Int32} (hc : cn < 100) (hJ : hp_J cn lin N M T P t g r) (h : hl_C p s m args c cL_does 19 wsL_does RL D (hl_ty cI cZ cJ) A) {V W I K : Nat} (hW : W < 2147483648) (hI : I < 4) (hK : K < 2) {J : Int32}  (hend : ∀ {r9 g9 : Nat → Nat → Int32} {pc : Nat} {ls : List (Nat × Value)}, decode cL_does pc = .ok (.ireturn, 1) → hp_I (cn + 1) (lin + nI (1 + W % 6)) g9 r9 → hl_X p l e ({ frames := 5, cells := 0, slots := 0, locals := 113 } : Room) s m args below meth c 19 D A 0 0 Q (hl_LW a cI cZ r9 g9) pc ls [.int 1]) :
    hl_X p l e ({ frames := 5, cells := 0, slots := 0, locals := 113 } : Room) s m args below meth c 19 D A 0 0 Q (hl_LW a cI cZ r g) 168 [(0, .ref (a 0)), (1, .ref (a 25)), (2, .ref (a 26)), (3, .ref (a 27)), (4, .ref (a 28)), (5, .int (nI V)), (6, .int (nI W)), (7, .int (nI I)), (8, .int (nI K)), (9, .int (nI N)), (10, .int J)] [] := by
  obtain ⟨j0, jR, jN, jT, jB, jS, jrm, jl, jp, jP, j60⟩ := id hJ
  have hok : hl_ok g N M := jR.1
  obtain ⟨hN, hcc, hM, hm, hbk, hpt, hbr⟩ := id hok
  have h23 : g 23 0 = nI T := jR.2.1.2
  have vI : vp_in (nI I) 4 := vp_in_nI hI (by decide)
  have vK : vp_in (nI K) 2 := vp_in_nI hK (by decide)
  refine hl_aload_n h 0 dL_does_168 rfl ?_
  refine hl_iload h 7 dL_does_169 rfl ?_
  refine hl_callPViD h (st := []) (wc := hl_WC a cI cZ g) (wr := hl_LR a cI r) [4, 5, 6, 7, 8, 9, 10, 11, 12, 13, 14, 15, 16, 17, 18, 19, 20, 21, 22, 23, 24, 25, 26, 27, 28] [0, 1, 2, 3] rfl rfl (by decide) (by decide) (by decide) (c_X5_clean l D cI cZ cJ a g (nI I) vI) (cwV 1 h.2.2.2.2.1 gL_does_X5_clean rfl rfl rfl (by decide +kernel) ⟨Nat.le_of_ble_eq_true rfl, Nat.le_of_ble_eq_true rfl⟩) hl_lw_4 rfl dL_does_171 rfl (Nat.le_of_ble_eq_true rfl) ⟨Nat.le_of_ble_eq_true rfl, Nat.le_of_ble_eq_true rfl⟩ rfl ?_
  refine hl_wd (w' := hl_LW a cI cZ r g) rfl ?_
  refine hl_istore h [(12, .int (g 3 (nI I).toNatClampNeg)), (0, .ref (a 0)), (1, .ref (a 25)), (2, .ref (a 26)), (3, .ref (a 27)), (4, .ref (a 28)), (5, .int (nI V)), (6, .int (nI W)), (7, .int (nI I)), (8, .int (nI K)), (9, .int (nI N)), (10, .int J)] dL_does_174 (by decide) rfl ?_
  refine hl_aload_n h 1 dL_does_176 rfl ?_
  refine hl_iload h 8 dL_does_177 rfl ?_
  refine hl_iconst h 1 dL_does_179 (by decide) ?_
  refine hl_iload h 7 dL_does_180 rfl ?_
  refine hl_bipush h 6 dL_does_182 (by decide) ?_
  refine hl_irem h dL_does_184 (by decide) ?_
  refine hl_topc (nI (W % 6)) (pk_rem (a := W) (d := 6) (by omega) (by omega) (by omega)) ?_
  refine hl_iadd h dL_does_185 ?_
  refine hl_topc (nI (1 + (W % 6))) (nI_add _ _) ?_
  refine hl_callPViD h (st := []) (wc := hl_WC a cI cZ g) (wr := hl_LR a cI r) [4, 5, 6, 7, 8, 9, 10, 11, 12, 13, 14, 15, 16, 17, 18, 19, 20, 21, 22, 23, 24, 25, 26, 27, 28] [0, 1, 2, 3] rfl rfl (by decide) (by decide) (by decide) (c_X5_buyLinen l D cI cZ cJ a g (nI I) (nI (1 + (W % 6))) vI (nI_nlt (b := 1) (by omega) (by omega)) (nI_le (b := 20) (by omega) (by omega))) (cwV 2 h.2.2.2.2.1 gL_does_X5_buyLinen rfl rfl rfl (by decide +kernel) ⟨Nat.le_of_ble_eq_true rfl, Nat.le_of_ble_eq_true rfl⟩) hl_lw_4 rfl dL_does_186 rfl (Nat.le_of_ble_eq_true rfl) ⟨Nat.le_of_ble_eq_true rfl, Nat.le_of_ble_eq_true rfl⟩ rfl ?_
  refine hl_wd (w' := hl_LW a cI cZ r (f_X2_addClean g (nI I) (nI (1 + (W % 6))))) rfl ?_
  refine hl_nmPG (fun g1 e2 => ?_)
  refine hl_iload h 0 dL_does_189 rfl ?_
  refine hl_iconst h 1 dL_does_191 (by decide) ?_
  refine hl_iadd h dL_does_192 ?_
  refine hl_iload h 7 dL_does_193 rfl ?_
  refine hl_bipush h 6 dL_does_195 (by decide) ?_
  refine hl_irem h dL_does_197 (by decide) ?_
  refine hl_topc (nI (W % 6)) (pk_rem (a := W) (d := 6) (by omega) (by omega) (by omega)) ?_
  refine hl_iadd h dL_does_198 ?_
  refine hl_icmp_ne_F h 206 dL_does_199 (by decide) (hp_buy g (nI I) _) ?_
  refine hl_iconst h 1 dL_does_202 (by decide) ?_
  refine hl_goto h 207 dL_does_203 (by decide) ?_
  exact hend dL_does_207 (by rw [e2]; exact hp_buyLinen hc hJ hI)

set_option maxHeartbeats 4000000 in
set_option maxRecDepth 100000 in
theorem d_setBroken {p : Program} {l : Launch} {e : Env} {s : State} {m : MethodId} {args : Array Value} {below : List Frame} {meth : Method} {c : Code} {D : va_G} {cI cZ cJ : ClassId} {A : Nat → Prop} {Q : State → Prop} {a : Nat → Nat} {cn : Nat} {lin : Int32} {N M T P : Nat} {t g r : Nat → Nat → Int32} (hc : cn < 100) (hJ : hp_J cn lin N M T P t g r) (h : hl_C p s m args c cL_does 19 wsL_does RL D (hl_ty cI cZ cJ) A) {V W I K : Nat} (hW : W < 2147483648) (hI : I < 4) (hK : K < 2) {J : Int32}  (hend : ∀ {r9 g9 : Nat → Nat → Int32} {pc : Nat} {ls : List (Nat × Value)}, decode cL_does pc = .ok (.ireturn, 1) → hp_I (cn + 1) lin g9 r9 → hl_X p l e ({ frames := 5, cells := 0, slots := 0, locals := 113 } : Room) s m args below meth c 19 D A 0 0 Q (hl_LW a cI cZ r9 g9) pc ls [.int 1]) :
    hl_X p l e ({ frames := 5, cells := 0, slots := 0, locals := 113 } : Room) s m args below meth c 19 D A 0 0 Q (hl_LW a cI cZ r g) 208 [(0, .ref (a 0)), (1, .ref (a 25)), (2, .ref (a 26)), (3, .ref (a 27)), (4, .ref (a 28)), (5, .int (nI V)), (6, .int (nI W)), (7, .int (nI I)), (8, .int (nI K)), (9, .int (nI N)), (10, .int J)] [] := by
  obtain ⟨j0, jR, jN, jT, jB, jS, jrm, jl, jp, jP, j60⟩ := id hJ
  have hok : hl_ok g N M := jR.1
  obtain ⟨hN, hcc, hM, hm, hbk, hpt, hbr⟩ := id hok
  have h23 : g 23 0 = nI T := jR.2.1.2
  have vI : vp_in (nI I) 4 := vp_in_nI hI (by decide)
  have vK : vp_in (nI K) 2 := vp_in_nI hK (by decide)
  refine hl_aload_n h 0 dL_does_208 rfl ?_
  refine hl_iload h 6 dL_does_209 rfl ?_
  refine hl_iconst h 2 dL_does_211 (by decide) ?_
  refine hl_irem h dL_does_212 (by decide) ?_
  refine hl_topc (nI (W % 2)) (pk_rem (a := W) (d := 2) (by omega) (by omega) (by omega)) ?_
  refine hl_if_ne h 220 dL_does_213 (by decide) (fun c1 => ?_) (fun c1 => ?_)
  · refine hl_iconst h 0 dL_does_220 (by decide) ?_
    refine hl_callPViD h (st := []) (wc := hl_WC a cI cZ g) (wr := hl_LR a cI r) [4, 5, 6, 7, 8, 9, 10, 11, 12, 13, 14, 15, 16, 17, 18, 19, 20, 21, 22, 23, 24, 25, 26, 27, 28] [0, 1, 2, 3] rfl rfl (by decide) (by decide) (by decide) (c_X5_setBroken l D cI cZ cJ a g 0 (by decide) hbr) (cwV 1 h.2.2.2.2.1 gL_does_X5_setBroken rfl rfl rfl (by decide +kernel) ⟨Nat.le_of_ble_eq_true rfl, Nat.le_of_ble_eq_true rfl⟩) hl_lw_4 rfl dL_does_221 rfl (Nat.le_of_ble_eq_true rfl) ⟨Nat.le_of_ble_eq_true rfl, Nat.le_of_ble_eq_true rfl⟩ rfl ?_
    refine hl_wd (w' := hl_LW a cI cZ r (hl_su g 8 (fun _ => 0))) rfl ?_
    refine hl_nmPG (fun g2 e3 => ?_)
    refine hl_pop h dL_does_224 rfl ?_
    refine hl_aload_n h 0 dL_does_225 rfl ?_
    refine hl_iload h 6 dL_does_226 rfl ?_
    refine hl_iconst h 2 dL_does_228 (by decide) ?_
    refine hl_irem h dL_does_229 (by decide) ?_
    refine hl_topc (nI (W % 2)) (pk_rem (a := W) (d := 2) (by omega) (by omega) (by omega)) ?_
    refine hl_if_ne_T h 237 dL_does_230 (by decide) c1 ?_
    refine hl_iconst h 0 dL_does_237 (by decide) ?_
    refine hl_callPViD h (st := []) (wc := hl_WC a cI cZ g2) (wr := hl_LR a cI r) [4, 5, 6, 7, 8, 9, 10, 11, 12, 13, 14, 15, 16, 17, 18, 19, 20, 21, 22, 23, 24, 25, 26, 27, 28] [0, 1, 2, 3] rfl rfl (by decide) (by decide) (by decide) (c_X5_setBroken l D cI cZ cJ a g2 0 (by decide) (by rw [e3, hl_su_eq]; decide)) (cwV 1 h.2.2.2.2.1 gL_does_X5_setBroken rfl rfl rfl (by decide +kernel) ⟨Nat.le_of_ble_eq_true rfl, Nat.le_of_ble_eq_true rfl⟩) hl_lw_4 rfl dL_does_238 rfl (Nat.le_of_ble_eq_true rfl) ⟨Nat.le_of_ble_eq_true rfl, Nat.le_of_ble_eq_true rfl⟩ rfl ?_
    refine hl_wd (w' := hl_LW a cI cZ r (hl_su g2 8 (fun _ => 0))) rfl ?_
    refine hl_nmPG (fun g4 e5 => ?_)
    refine hl_iload h 6 dL_does_241 rfl ?_
    refine hl_iconst h 2 dL_does_243 (by decide) ?_
    refine hl_irem h dL_does_244 (by decide) ?_
    refine hl_topc (nI (W % 2)) (pk_rem (a := W) (d := 2) (by omega) (by omega) (by omega)) ?_
    refine hl_if_ne_T h 252 dL_does_245 (by decide) c1 ?_
    refine hl_iconst h 0 dL_does_252 (by decide) ?_
    refine hl_icmp_ne_F h 260 dL_does_253 (by decide) (by rw [e3, hl_su_eq]) ?_
    refine hl_iconst h 1 dL_does_256 (by decide) ?_
    refine hl_goto h 261 dL_does_257 (by decide) ?_
    exact hend dL_does_261 (by rw [e5, e3]; exact hp_setBroken hc hJ (by decide))
  · refine hl_iconst h 1 dL_does_216 (by decide) ?_
    refine hl_goto h 221 dL_does_217 (by decide) ?_
    refine hl_callPViD h (st := []) (wc := hl_WC a cI cZ g) (wr := hl_LR a cI r) [4, 5, 6, 7, 8, 9, 10, 11, 12, 13, 14, 15, 16, 17, 18, 19, 20, 21, 22, 23, 24, 25, 26, 27, 28] [0, 1, 2, 3] rfl rfl (by decide) (by decide) (by decide) (c_X5_setBroken l D cI cZ cJ a g 1 (by decide) hbr) (cwV 1 h.2.2.2.2.1 gL_does_X5_setBroken rfl rfl rfl (by decide +kernel) ⟨Nat.le_of_ble_eq_true rfl, Nat.le_of_ble_eq_true rfl⟩) hl_lw_4 rfl dL_does_221 rfl (Nat.le_of_ble_eq_true rfl) ⟨Nat.le_of_ble_eq_true rfl, Nat.le_of_ble_eq_true rfl⟩ rfl ?_
    refine hl_wd (w' := hl_LW a cI cZ r (hl_su g 8 (fun _ => 1))) rfl ?_
    refine hl_nmPG (fun g6 e7 => ?_)
    refine hl_pop h dL_does_224 rfl ?_
    refine hl_aload_n h 0 dL_does_225 rfl ?_
    refine hl_iload h 6 dL_does_226 rfl ?_
    refine hl_iconst h 2 dL_does_228 (by decide) ?_
    refine hl_irem h dL_does_229 (by decide) ?_
    refine hl_topc (nI (W % 2)) (pk_rem (a := W) (d := 2) (by omega) (by omega) (by omega)) ?_
    refine hl_if_ne_F h 237 dL_does_230 (by decide) c1 ?_
    refine hl_iconst h 1 dL_does_233 (by decide) ?_
    refine hl_goto h 238 dL_does_234 (by decide) ?_
    refine hl_callPViD h (st := []) (wc := hl_WC a cI cZ g6) (wr := hl_LR a cI r) [4, 5, 6, 7, 8, 9, 10, 11, 12, 13, 14, 15, 16, 17, 18, 19, 20, 21, 22, 23, 24, 25, 26, 27, 28] [0, 1, 2, 3] rfl rfl (by decide) (by decide) (by decide) (c_X5_setBroken l D cI cZ cJ a g6 1 (by decide) (by rw [e7, hl_su_eq]; decide)) (cwV 1 h.2.2.2.2.1 gL_does_X5_setBroken rfl rfl rfl (by decide +kernel) ⟨Nat.le_of_ble_eq_true rfl, Nat.le_of_ble_eq_true rfl⟩) hl_lw_4 rfl dL_does_238 rfl (Nat.le_of_ble_eq_true rfl) ⟨Nat.le_of_ble_eq_true rfl, Nat.le_of_ble_eq_true rfl⟩ rfl ?_
    refine hl_wd (w' := hl_LW a cI cZ r (hl_su g6 8 (fun _ => 1))) rfl ?_
    refine hl_nmPG (fun g8 e9 => ?_)
    refine hl_iload h 6 dL_does_241 rfl ?_
    refine hl_iconst h 2 dL_does_243 (by decide) ?_
    refine hl_irem h dL_does_244 (by decide) ?_
    refine hl_topc (nI (W % 2)) (pk_rem (a := W) (d := 2) (by omega) (by omega) (by omega)) ?_
    refine hl_if_ne_F h 252 dL_does_245 (by decide) c1 ?_
    refine hl_iconst h 1 dL_does_248 (by decide) ?_
    refine hl_goto h 253 dL_does_249 (by decide) ?_
    refine hl_icmp_ne_F h 260 dL_does_253 (by decide) (by rw [e7, hl_su_eq]) ?_
    refine hl_iconst h 1 dL_does_256 (by decide) ?_
    refine hl_goto h 261 dL_does_257 (by decide) ?_
    exact hend dL_does_261 (by rw [e9, e7]; exact hp_setBroken hc hJ (by decide))

set_option maxHeartbeats 4000000 in
set_option maxRecDepth 100000 in
theorem d_book {p : Program} {l : Launch} {e : Env} {s : State} {m : MethodId} {args : Array Value} {below : List Frame} {meth : Method} {c : Code} {D : va_G} {cI cZ cJ : ClassId} {A : Nat → Prop} {Q : State → Prop} {a : Nat → Nat} {cn : Nat} {lin : Int32} {N M T P : Nat} {t g r : Nat → Nat → Int32} (hc : cn < 100) (hJ : hp_J cn lin N M T P t g r) (h : hl_C p s m args c cL_does 19 wsL_does RL D (hl_ty cI cZ cJ) A) {V W I K : Nat} (hW : W < 2147483648) (hI : I < 4) (hK : K < 2) {J : Int32}  (hend : ∀ {r9 g9 : Nat → Nat → Int32} {pc : Nat} {ls : List (Nat × Value)}, decode cL_does pc = .ok (.ireturn, 1) → hp_I (cn + 1) lin g9 r9 → hl_X p l e ({ frames := 5, cells := 0, slots := 0, locals := 113 } : Room) s m args below meth c 19 D A 0 0 Q (hl_LW a cI cZ r9 g9) pc ls [.int 1]) :
    hl_X p l e ({ frames := 5, cells := 0, slots := 0, locals := 113 } : Room) s m args below meth c 19 D A 0 0 Q (hl_LW a cI cZ r g) 262 [(0, .ref (a 0)), (1, .ref (a 25)), (2, .ref (a 26)), (3, .ref (a 27)), (4, .ref (a 28)), (5, .int (nI V)), (6, .int (nI W)), (7, .int (nI I)), (8, .int (nI K)), (9, .int (nI N)), (10, .int J)] [] := by
  obtain ⟨j0, jR, jN, jT, jB, jS, jrm, jl, jp, jP, j60⟩ := id hJ
  have hok : hl_ok g N M := jR.1
  obtain ⟨hN, hcc, hM, hm, hbk, hpt, hbr⟩ := id hok
  have h23 : g 23 0 = nI T := jR.2.1.2
  have vI : vp_in (nI I) 4 := vp_in_nI hI (by decide)
  have vK : vp_in (nI K) 2 := vp_in_nI hK (by decide)
  refine hl_aload_n h 0 dL_does_262 rfl ?_
  refine hl_callPViD h (st := []) (wc := hl_WC a cI cZ g) (wr := hl_LR a cI r) [4, 5, 6, 7, 8, 9, 10, 11, 12, 13, 14, 15, 16, 17, 18, 19, 20, 21, 22, 23, 24, 25, 26, 27, 28] [0, 1, 2, 3] rfl rfl (by decide) (by decide) (by decide) (c_X5_today l D cI cZ cJ a g) (cwV 0 h.2.2.2.2.1 gL_does_X5_today rfl rfl rfl (by decide +kernel) ⟨Nat.le_of_ble_eq_true rfl, Nat.le_of_ble_eq_true rfl⟩) hl_lw_4 rfl dL_does_263 rfl (Nat.le_of_ble_eq_true rfl) ⟨Nat.le_of_ble_eq_true rfl, Nat.le_of_ble_eq_true rfl⟩ rfl ?_
  refine hl_wd (w' := hl_LW a cI cZ r g) rfl ?_
  refine hl_topc (nI T) h23 ?_
  refine hl_iload h 6 dL_does_266 rfl ?_
  refine hl_iconst h 3 dL_does_268 (by decide) ?_
  refine hl_irem h dL_does_269 (by decide) ?_
  refine hl_topc (nI (W % 3)) (pk_rem (a := W) (d := 3) (by omega) (by omega) (by omega)) ?_
  refine hl_iadd h dL_does_270 ?_
  refine hl_topc (nI (T + (W % 3))) (nI_add _ _) ?_
  refine hl_istore h [(13, .int (nI (T + (W % 3)))), (0, .ref (a 0)), (1, .ref (a 25)), (2, .ref (a 26)), (3, .ref (a 27)), (4, .ref (a 28)), (5, .int (nI V)), (6, .int (nI W)), (7, .int (nI I)), (8, .int (nI K)), (9, .int (nI N)), (10, .int J)] dL_does_271 (by decide) rfl ?_
  refine hl_bipush h 8 dL_does_273 (by decide) ?_
  refine hl_iload h 0 dL_does_275 rfl ?_
  refine hl_imul h dL_does_277 ?_
  refine hl_topc (nI (8 * (T + (W % 3)))) (pk_mul _ _) ?_
  refine hl_iconst h 2 dL_does_278 (by decide) ?_
  refine hl_iload h 8 dL_does_279 rfl ?_
  refine hl_imul h dL_does_281 ?_
  refine hl_topc (nI (2 * I)) (pk_mul _ _) ?_
  refine hl_iadd h dL_does_282 ?_
  refine hl_topc (nI ((8 * (T + (W % 3))) + (2 * I))) (nI_add _ _) ?_
  refine hl_iload h 9 dL_does_283 rfl ?_
  refine hl_iadd h dL_does_285 ?_
  refine hl_topc (nI (((8 * (T + (W % 3))) + (2 * I)) + K)) (nI_add _ _) ?_
  refine hl_istore h [(14, .int (nI (((8 * (T + (W % 3))) + (2 * I)) + K))), (13, .int (nI (T + (W % 3)))), (0, .ref (a 0)), (1, .ref (a 25)), (2, .ref (a 26)), (3, .ref (a 27)), (4, .ref (a 28)), (5, .int (nI V)), (6, .int (nI W)), (7, .int (nI I)), (8, .int (nI K)), (9, .int (nI N)), (10, .int J)] dL_does_286 (by decide) rfl ?_
  refine hl_iload h 11 dL_does_288 rfl ?_
  refine hl_bipush h 60 dL_does_290 (by decide) ?_
  refine hl_icmp_ge h 377 dL_does_292 (by decide) (fun c1 => ?_) (fun c1 => ?_)
  · refine hl_iconst h 1 dL_does_377 (by decide) ?_
    exact hend dL_does_378 (hp_skip hc hJ)
  · have hN6 : N < 60 := Nat.not_le.mp (fun z => c1 (nI_le (a := 60) z (by omega)))
    refine hl_aload_n h 4 dL_does_295 rfl ?_
    refine hl_iload h 11 dL_does_296 rfl ?_
    refine hl_iload h 0 dL_does_298 rfl ?_
    refine hl_callSiD h (st := []) (c_L_booked l D cI cZ cJ a r g (nI N) (nI (((8 * (T + (W % 3))) + (2 * I)) + K)) N (by omega) rfl) (va_cwS 3 h.2.2.2.2.1 gL_does_L_booked rfl rfl rfl (by decide +kernel) ⟨Nat.le_of_ble_eq_true rfl, Nat.le_of_ble_eq_true rfl⟩) dL_does_300 rfl (Nat.le_of_ble_eq_true rfl) ⟨Nat.le_of_ble_eq_true rfl, Nat.le_of_ble_eq_true rfl⟩ rfl ?_
    refine hl_aload_n h 3 dL_does_303 rfl ?_
    refine hl_iconst h 2 dL_does_304 (by decide) ?_
    refine hl_iload h 9 dL_does_305 rfl ?_
    refine hl_imul h dL_does_307 ?_
    refine hl_topc (nI (2 * I)) (pk_mul _ _) ?_
    refine hl_iload h 10 dL_does_308 rfl ?_
    refine hl_iadd h dL_does_310 ?_
    refine hl_topc (nI ((2 * I) + K)) (nI_add _ _) ?_
    refine hl_ildN h hl_lw_0 0 rfl (((2 * I) + K)) dL_does_311 rfl (by omega) (by decide) ?_
    refine hl_aload_n h 2 dL_does_312 rfl ?_
    refine hl_iload h 9 dL_does_313 rfl ?_
    refine hl_callPViD h (st := [.int (r 0 (((2 * I) + K))), .int (r_L_booked r N (nI (((8 * (T + (W % 3))) + (2 * I)) + K)))]) (wc := hl_WC a cI cZ g) (wr := hl_LR a cI r) [4, 5, 6, 7, 8, 9, 10, 11, 12, 13, 14, 15, 16, 17, 18, 19, 20, 21, 22, 23, 24, 25, 26, 27, 28] [0, 1, 2, 3] rfl rfl (by decide) (by decide) (by decide) (c_X5_extra l D cI cZ cJ a g (nI I) N M hok vI) (cwV 1 h.2.2.2.2.1 gL_does_X5_extra rfl rfl rfl (by decide +kernel) ⟨Nat.le_of_ble_eq_true rfl, Nat.le_of_ble_eq_true rfl⟩) hl_lw_4 rfl dL_does_315 rfl (Nat.le_of_ble_eq_true rfl) ⟨Nat.le_of_ble_eq_true rfl, Nat.le_of_ble_eq_true rfl⟩ rfl ?_
    refine hl_wd (w' := hl_LW a cI cZ r g) rfl ?_
    refine hl_iadd h dL_does_318 ?_
    refine hl_icmp_ge h 377 dL_does_319 (by decide) (fun c2 => ?_) (fun c2 => ?_)
    · refine hl_iconst h 1 dL_does_377 (by decide) ?_
      exact hend dL_does_378 (hp_skip hc hJ)
    · have htk : ¬ r_X5_takesMore g N (nI I) (nI K) (nI (T + W % 3)) = 0 := hp_takes hJ hI hK (by omega) c2
      refine hl_aload_n h 4 dL_does_322 rfl ?_
      refine hl_iload h 11 dL_does_323 rfl ?_
      refine hl_iload h 0 dL_does_325 rfl ?_
      refine hl_istN h hl_lw_1 0 rfl (N) dL_does_327 rfl (by omega) (by decide) hl_lw_t1 ?_
      refine hl_nmPR (fun r3 e4 => ?_)
      refine hl_aload_n h 5 dL_does_328 rfl ?_
      refine hl_iload h 11 dL_does_329 rfl ?_
      refine hl_iload h 8 dL_does_331 rfl ?_
      refine hl_iconst h 3 dL_does_333 (by decide) ?_
      refine hl_idiv h dL_does_334 (by decide) ?_
      refine hl_topc (nI (W / 3)) (pk_div (a := W) (d := 3) (by omega) (by omega) (by omega)) ?_
      refine hl_bipush h 10 dL_does_335 (by decide) ?_
      refine hl_irem h dL_does_337 (by decide) ?_
      refine hl_topc (nI ((W / 3) % 10)) (pk_rem (a := (W / 3)) (d := 10) (by omega) (by omega) (by omega)) ?_
      refine hl_istN h hl_lw_2 0 rfl (N) dL_does_338 rfl (by omega) (by decide) hl_lw_t2 ?_
      refine hl_nmPR (fun r5 e6 => ?_)
      refine hl_aload_n h 2 dL_does_339 rfl ?_
      refine hl_iload h 8 dL_does_340 rfl ?_
      refine hl_iconst h 3 dL_does_342 (by decide) ?_
      refine hl_idiv h dL_does_343 (by decide) ?_
      refine hl_topc (nI (W / 3)) (pk_div (a := W) (d := 3) (by omega) (by omega) (by omega)) ?_
      refine hl_bipush h 10 dL_does_344 (by decide) ?_
      refine hl_irem h dL_does_346 (by decide) ?_
      refine hl_topc (nI ((W / 3) % 10)) (pk_rem (a := (W / 3)) (d := 10) (by omega) (by omega) (by omega)) ?_
      refine hl_iload h 9 dL_does_347 rfl ?_
      refine hl_iload h 10 dL_does_349 rfl ?_
      refine hl_iload h 1 dL_does_351 rfl ?_
      refine hl_callPViD h (st := []) (wc := hl_WC a cI cZ g) (wr := hl_LR a cI r5) [4, 5, 6, 7, 8, 9, 10, 11, 12, 13, 14, 15, 16, 17, 18, 19, 20, 21, 22, 23, 24, 25, 26, 27, 28] [0, 1, 2, 3] rfl rfl (by decide) (by decide) (by decide) (c_X5_book l D cI cZ cJ a g (nI ((W / 3) % 10)) (nI I) (nI K) (nI (T + (W % 3))) N M hok (vp_in_nI (by omega) (by decide)) vI vK (by rw [h23]; exact nI_nlt (by omega) (by omega)) (by rw [h23, hp_add10]; exact nI_le (by omega) (by omega)) (by rw [hcc]; exact nI_lt (b := 80) (by omega) (by decide)) htk) (cwV 4 h.2.2.2.2.1 gL_does_X5_book rfl rfl rfl (by decide +kernel) ⟨Nat.le_of_ble_eq_true rfl, Nat.le_of_ble_eq_true rfl⟩) hl_lw_4 rfl dL_does_353 rfl (Nat.le_of_ble_eq_true rfl) ⟨Nat.le_of_ble_eq_true rfl, Nat.le_of_ble_eq_true rfl⟩ rfl ?_
      refine hl_wd (w' := hl_LW a cI cZ r5 (f_X0_add g (nI ((W / 3) % 10)) (nI I) (nI K) (nI (T + (W % 3))))) rfl ?_
      refine hl_topc (nI N) hcc ?_
      refine hl_nmPG (fun g7 e8 => ?_)
      refine hl_iload h 11 dL_does_356 rfl ?_
      refine hl_icmp_ne_F h 375 dL_does_358 (by decide) rfl ?_
      have hok3 : hl_ok g7 (N + 1) M := by rw [e8]; exact (hl_R_book (by omega) jR vI vK (by rw [h23]; exact nI_nlt (by omega) (by omega)) (by rw [h23, hp_add10]; exact nI_le (by omega) (by omega)) (by omega)).1
      refine hl_aload_n h 2 dL_does_361 rfl ?_
      refine hl_iload h 11 dL_does_362 rfl ?_
      refine hl_callPViD h (st := []) (wc := hl_WC a cI cZ g7) (wr := hl_LR a cI r5) [4, 5, 6, 7, 8, 9, 10, 11, 12, 13, 14, 15, 16, 17, 18, 19, 20, 21, 22, 23, 24, 25, 26, 27, 28] [0, 1, 2, 3] rfl rfl (by decide) (by decide) (by decide) (c_X5_sleeps l D cI cZ cJ a g7 (nI N) (N + 1) M hok3 (nI_pos (by omega)) (by rw [hok3.2.1]; exact nI_lt (by omega) (by omega))) (cwV 1 h.2.2.2.2.1 gL_does_X5_sleeps rfl rfl rfl (by decide +kernel) ⟨Nat.le_of_ble_eq_true rfl, Nat.le_of_ble_eq_true rfl⟩) hl_lw_4 rfl dL_does_364 rfl (Nat.le_of_ble_eq_true rfl) ⟨Nat.le_of_ble_eq_true rfl, Nat.le_of_ble_eq_true rfl⟩ rfl ?_
      refine hl_wd (w' := hl_LW a cI cZ r5 g7) rfl ?_
      refine hl_iconst h (-1) dL_does_367 (by decide) ?_
      refine hl_icmp_ne_F h 375 dL_does_368 (by decide) (by rw [e8]; exact hp_bed g hcc (by omega)) ?_
      refine hl_iconst h 1 dL_does_371 (by decide) ?_
      refine hl_goto h 376 dL_does_372 (by decide) ?_
      exact hend dL_does_376 (by rw [e8, e6, e4]; exact hp_book hc hJ hN6 hI hK (by omega) (by omega))

set_option maxHeartbeats 4000000 in
set_option maxRecDepth 100000 in
theorem d_come0 {p : Program} {l : Launch} {e : Env} {s : State} {m : MethodId} {args : Array Value} {below : List Frame} {meth : Method} {c : Code} {D : va_G} {cI cZ cJ : ClassId} {A : Nat → Prop} {Q : State → Prop} {a : Nat → Nat} {cn : Nat} {lin : Int32} {N M T P : Nat} {t g r : Nat → Nat → Int32} (hc : cn < 100) (hJ : hp_J cn lin N M T P t g r) (h : hl_C p s m args c cL_does 19 wsL_does RL D (hl_ty cI cZ cJ) A) {V W I K : Nat} (hW : W < 2147483648) (hI : I < 4) (hK : K < 2)  (hend : ∀ {r9 g9 : Nat → Nat → Int32} {pc : Nat} {ls : List (Nat × Value)}, decode cL_does pc = .ok (.ireturn, 1) → hp_I (cn + 1) lin g9 r9 → hl_X p l e ({ frames := 5, cells := 0, slots := 0, locals := 113 } : Room) s m args below meth c 19 D A 0 0 Q (hl_LW a cI cZ r9 g9) pc ls [.int 1]) :
    hl_X p l e ({ frames := 5, cells := 0, slots := 0, locals := 113 } : Room) s m args below meth c 19 D A 0 0 Q (hl_LW a cI cZ r g) 379 [(0, .ref (a 0)), (1, .ref (a 25)), (2, .ref (a 26)), (3, .ref (a 27)), (4, .ref (a 28)), (5, .int (nI V)), (6, .int (nI W)), (7, .int (nI I)), (8, .int (nI K)), (9, .int (nI N)), (10, .int (-1))] [] := by
  obtain ⟨j0, jR, jN, jT, jB, jS, jrm, jl, jp, jP, j60⟩ := id hJ
  have hok : hl_ok g N M := jR.1
  obtain ⟨hN, hcc, hM, hm, hbk, hpt, hbr⟩ := id hok
  have h23 : g 23 0 = nI T := jR.2.1.2
  have vI : vp_in (nI I) 4 := vp_in_nI hI (by decide)
  have vK : vp_in (nI K) 2 := vp_in_nI hK (by decide)
  refine hl_iload h 10 dL_does_379 rfl ?_
  refine hl_if_lt_T h 507 dL_does_381 (by decide) (by decide) ?_
  refine hl_iconst h 1 dL_does_507 (by decide) ?_
  exact hend dL_does_508 (hp_skip hc hJ)

set_option maxHeartbeats 4000000 in
set_option maxRecDepth 100000 in
theorem d_come1 {p : Program} {l : Launch} {e : Env} {s : State} {m : MethodId} {args : Array Value} {below : List Frame} {meth : Method} {c : Code} {D : va_G} {cI cZ cJ : ClassId} {A : Nat → Prop} {Q : State → Prop} {a : Nat → Nat} {cn : Nat} {lin : Int32} {N M T P : Nat} {t g r : Nat → Nat → Int32} (hc : cn < 100) (hJ : hp_J cn lin N M T P t g r) (h : hl_C p s m args c cL_does 19 wsL_does RL D (hl_ty cI cZ cJ) A) {V W I K : Nat} (hW : W < 2147483648) (hI : I < 4) (hK : K < 2) {j : Nat} (hj : j < N) (hend : ∀ {r9 g9 : Nat → Nat → Int32} {pc : Nat} {ls : List (Nat × Value)}, decode cL_does pc = .ok (.ireturn, 1) → hp_I (cn + 1) lin g9 r9 → hl_X p l e ({ frames := 5, cells := 0, slots := 0, locals := 113 } : Room) s m args below meth c 19 D A 0 0 Q (hl_LW a cI cZ r9 g9) pc ls [.int 1]) :
    hl_X p l e ({ frames := 5, cells := 0, slots := 0, locals := 113 } : Room) s m args below meth c 19 D A 0 0 Q (hl_LW a cI cZ r g) 379 [(0, .ref (a 0)), (1, .ref (a 25)), (2, .ref (a 26)), (3, .ref (a 27)), (4, .ref (a 28)), (5, .int (nI V)), (6, .int (nI W)), (7, .int (nI I)), (8, .int (nI K)), (9, .int (nI N)), (10, .int (nI j))] [] := by
  obtain ⟨j0, jR, jN, jT, jB, jS, jrm, jl, jp, jP, j60⟩ := id hJ
  have hok : hl_ok g N M := jR.1
  obtain ⟨hN, hcc, hM, hm, hbk, hpt, hbr⟩ := id hok
  have h23 : g 23 0 = nI T := jR.2.1.2
  have vI : vp_in (nI I) 4 := vp_in_nI hI (by decide)
  have vK : vp_in (nI K) 2 := vp_in_nI hK (by decide)
  obtain ⟨n, i, k, hn4, hi4, hk2, b13, b11, b12, br1, br2, b10, br3, bc⟩ := jB.1 j hj
  refine hl_iload h 10 dL_does_379 rfl ?_
  refine hl_if_lt_F h 507 dL_does_381 (by decide) (nI_pos (by omega)) ?_
  refine hl_aload_n h 2 dL_does_384 rfl ?_
  refine hl_iload h 10 dL_does_385 rfl ?_
  refine hl_ildN h hl_lw_1 0 rfl (j) dL_does_387 rfl (by omega) (by decide) ?_
  refine hl_topc (nI (8 * n + 2 * i + k)) br1 ?_
  refine hl_bipush h 8 dL_does_388 (by decide) ?_
  refine hl_idiv h dL_does_390 (by decide) ?_
  refine hl_topc (nI n) (hp_mark8 (by omega) hi4 hk2) ?_
  refine hl_aload_n h 0 dL_does_391 rfl ?_
  refine hl_callPViD h (st := [.int (nI n)]) (wc := hl_WC a cI cZ g) (wr := hl_LR a cI r) [4, 5, 6, 7, 8, 9, 10, 11, 12, 13, 14, 15, 16, 17, 18, 19, 20, 21, 22, 23, 24, 25, 26, 27, 28] [0, 1, 2, 3] rfl rfl (by decide) (by decide) (by decide) (c_X5_today l D cI cZ cJ a g) (cwV 0 h.2.2.2.2.1 gL_does_X5_today rfl rfl rfl (by decide +kernel) ⟨Nat.le_of_ble_eq_true rfl, Nat.le_of_ble_eq_true rfl⟩) hl_lw_4 rfl dL_does_392 rfl (Nat.le_of_ble_eq_true rfl) ⟨Nat.le_of_ble_eq_true rfl, Nat.le_of_ble_eq_true rfl⟩ rfl ?_
  refine hl_wd (w' := hl_LW a cI cZ r g) rfl ?_
  refine hl_topc (nI T) h23 ?_
  refine hl_icmp_ne h 507 dL_does_395 (by decide) (fun c1 => ?_) (fun c1 => ?_)
  · refine hl_iconst h 1 dL_does_507 (by decide) ?_
    exact hend dL_does_508 (hp_skip hc hJ)
  · refine hl_aload h 4 dL_does_398 rfl ?_
    refine hl_iload h 10 dL_does_400 rfl ?_
    refine hl_ildN h hl_lw_3 0 rfl (j) dL_does_402 rfl (by omega) (by decide) ?_
    refine hl_if_ne h 507 dL_does_403 (by decide) (fun c2 => ?_) (fun c2 => ?_)
    · refine hl_iconst h 1 dL_does_507 (by decide) ?_
      exact hend dL_does_508 (hp_skip hc hJ)
    · refine hl_aload h 4 dL_does_406 rfl ?_
      refine hl_iload h 10 dL_does_408 rfl ?_
      refine hl_iconst h 1 dL_does_410 (by decide) ?_
      refine hl_istN h hl_lw_3 0 rfl (j) dL_does_411 rfl (by omega) (by decide) hl_lw_t3 ?_
      refine hl_nmPR (fun r3 e4 => ?_)
      refine hl_aload_n h 0 dL_does_412 rfl ?_
      refine hl_aload_n h 3 dL_does_413 rfl ?_
      refine hl_iload h 10 dL_does_414 rfl ?_
      refine hl_ildN h hl_lw_2 0 rfl (j) dL_does_416 rfl (by omega) (by decide) ?_
      refine hl_topc (g 10 j) (by rw [e4]; exact br2) ?_
      refine hl_callPViD h (st := []) (wc := hl_WC a cI cZ g) (wr := hl_LR a cI r3) [4, 5, 6, 7, 8, 9, 10, 11, 12, 13, 14, 15, 16, 17, 18, 19, 20, 21, 22, 23, 24, 25, 26, 27, 28] [0, 1, 2, 3] rfl rfl (by decide) (by decide) (by decide) (c_X5_points l D cI cZ cJ a g (g 10 j) N M hok b10) (cwV 1 h.2.2.2.2.1 gL_does_X5_points rfl rfl rfl (by decide +kernel) ⟨Nat.le_of_ble_eq_true rfl, Nat.le_of_ble_eq_true rfl⟩) hl_lw_4 rfl dL_does_417 rfl (Nat.le_of_ble_eq_true rfl) ⟨Nat.le_of_ble_eq_true rfl, Nat.le_of_ble_eq_true rfl⟩ rfl ?_
      refine hl_wd (w' := hl_LW a cI cZ r3 g) rfl ?_
      refine hl_istore h [(15, .int (hl_it (b_X3_ofGuest g (g 10 j)) 0 M 0)), (0, .ref (a 0)), (1, .ref (a 25)), (2, .ref (a 26)), (3, .ref (a 27)), (4, .ref (a 28)), (5, .int (nI V)), (6, .int (nI W)), (7, .int (nI I)), (8, .int (nI K)), (9, .int (nI N)), (10, .int (nI j))] dL_does_420 (by decide) rfl ?_
      refine hl_aload_n h 1 dL_does_422 rfl ?_
      refine hl_iconst h 0 dL_does_423 (by decide) ?_
      refine hl_callSiD h (st := []) (c_L_sum l D cI cZ cJ a r3 g 0) (va_cwS 2 h.2.2.2.2.1 gL_does_L_sum rfl rfl rfl (by decide +kernel) ⟨Nat.le_of_ble_eq_true rfl, Nat.le_of_ble_eq_true rfl⟩) dL_does_424 rfl (Nat.le_of_ble_eq_true rfl) ⟨Nat.le_of_ble_eq_true rfl, Nat.le_of_ble_eq_true rfl⟩ rfl ?_
      refine hl_istore h [(16, .int (r_L_sum g 0)), (15, .int (hl_it (b_X3_ofGuest g (g 10 j)) 0 M 0)), (0, .ref (a 0)), (1, .ref (a 25)), (2, .ref (a 26)), (3, .ref (a 27)), (4, .ref (a 28)), (5, .int (nI V)), (6, .int (nI W)), (7, .int (nI I)), (8, .int (nI K)), (9, .int (nI N)), (10, .int (nI j))] dL_does_427 (by decide) rfl ?_
      refine hl_aload_n h 2 dL_does_429 rfl ?_
      refine hl_iload h 12 dL_does_430 rfl ?_
      refine hl_callPViD h (st := []) (wc := hl_WC a cI cZ g) (wr := hl_LR a cI r3) [4, 5, 6, 7, 8, 9, 10, 11, 12, 13, 14, 15, 16, 17, 18, 19, 20, 21, 22, 23, 24, 25, 26, 27, 28] [0, 1, 2, 3] rfl rfl (by decide) (by decide) (by decide) (c_X5_come l D cI cZ cJ a g (nI j) N M hok (nI_pos (by omega)) (by rw [hcc]; exact nI_lt hj (by omega)) (by rw [nI_clamp (by omega), b13, h23]; exact c1) (by rw [nI_clamp (by omega), ← br3]; exact c2)) (cwV 1 h.2.2.2.2.1 gL_does_X5_come rfl rfl rfl (by decide +kernel) ⟨Nat.le_of_ble_eq_true rfl, Nat.le_of_ble_eq_true rfl⟩) hl_lw_4 rfl dL_does_432 rfl (Nat.le_of_ble_eq_true rfl) ⟨Nat.le_of_ble_eq_true rfl, Nat.le_of_ble_eq_true rfl⟩ rfl ?_
      refine hl_wd (w' := hl_LW a cI cZ r3 (f_X5_come g (nI j))) rfl ?_
      refine hl_topi (fun v5 ev6 => ?_)
      refine hl_nmPG (fun g7 e8 => ?_)
      refine hl_istore h [(17, .int v5), (16, .int (r_L_sum g 0)), (15, .int (hl_it (b_X3_ofGuest g (g 10 j)) 0 M 0)), (0, .ref (a 0)), (1, .ref (a 25)), (2, .ref (a 26)), (3, .ref (a 27)), (4, .ref (a 28)), (5, .int (nI V)), (6, .int (nI W)), (7, .int (nI I)), (8, .int (nI K)), (9, .int (nI N)), (10, .int (nI j))] dL_does_435 (by decide) rfl ?_
      obtain ⟨M2, hok2, hbed, hpts, hneg, hpos, hI2⟩ := hp_come (v := v5) hc hJ hj (b13.trans c1) (by rw [← br3]; exact c2) b10 ev6
      rw [← e8] at hok2 hbed hpts hneg hpos hI2
      refine hl_aload_n h 3 dL_does_437 rfl ?_
      refine hl_iload h 13 dL_does_438 rfl ?_
      refine hl_callPViD h (st := []) (wc := hl_WC a cI cZ g7) (wr := hl_LR a cI r3) [4, 5, 6, 7, 8, 9, 10, 11, 12, 13, 14, 15, 16, 17, 18, 19, 20, 21, 22, 23, 24, 25, 26, 27, 28] [0, 1, 2, 3] rfl rfl (by decide) (by decide) (by decide) (c_X5_sleeps l D cI cZ cJ a g7 (nI j) N M2 hok2 (nI_pos (by omega)) (by rw [hok2.2.1]; exact nI_lt hj (by omega))) (cwV 1 h.2.2.2.2.1 gL_does_X5_sleeps rfl rfl rfl (by decide +kernel) ⟨Nat.le_of_ble_eq_true rfl, Nat.le_of_ble_eq_true rfl⟩) hl_lw_4 rfl dL_does_440 rfl (Nat.le_of_ble_eq_true rfl) ⟨Nat.le_of_ble_eq_true rfl, Nat.le_of_ble_eq_true rfl⟩ rfl ?_
      refine hl_wd (w' := hl_LW a cI cZ r3 g7) rfl ?_
      refine hl_iload h 0 dL_does_443 rfl ?_
      refine hl_icmp_ne_F h 465 dL_does_445 (by decide) hbed ?_
      refine hl_aload_n h 3 dL_does_448 rfl ?_
      refine hl_aload_n h 6 dL_does_449 rfl ?_
      refine hl_iload h 13 dL_does_450 rfl ?_
      refine hl_ildN h hl_lw_2 0 rfl (j) dL_does_452 rfl (by omega) (by decide) ?_
      refine hl_topc (g 10 j) (by rw [e4]; exact br2) ?_
      refine hl_callPViD h (st := []) (wc := hl_WC a cI cZ g7) (wr := hl_LR a cI r3) [4, 5, 6, 7, 8, 9, 10, 11, 12, 13, 14, 15, 16, 17, 18, 19, 20, 21, 22, 23, 24, 25, 26, 27, 28] [0, 1, 2, 3] rfl rfl (by decide) (by decide) (by decide) (c_X5_points l D cI cZ cJ a g7 (g 10 j) N M2 hok2 b10) (cwV 1 h.2.2.2.2.1 gL_does_X5_points rfl rfl rfl (by decide +kernel) ⟨Nat.le_of_ble_eq_true rfl, Nat.le_of_ble_eq_true rfl⟩) hl_lw_4 rfl dL_does_453 rfl (Nat.le_of_ble_eq_true rfl) ⟨Nat.le_of_ble_eq_true rfl, Nat.le_of_ble_eq_true rfl⟩ rfl ?_
      refine hl_wd (w' := hl_LW a cI cZ r3 g7) rfl ?_
      refine hl_iload h 2 dL_does_456 rfl ?_
      refine hl_icmp_lt_F h 465 dL_does_458 (by decide) hpts ?_
      refine hl_iconst h 1 dL_does_461 (by decide) ?_
      refine hl_goto h 466 dL_does_462 (by decide) ?_
      refine hl_istore h [(18, .int 1), (17, .int v5), (16, .int (r_L_sum g 0)), (15, .int (hl_it (b_X3_ofGuest g (g 10 j)) 0 M 0)), (0, .ref (a 0)), (1, .ref (a 25)), (2, .ref (a 26)), (3, .ref (a 27)), (4, .ref (a 28)), (5, .int (nI V)), (6, .int (nI W)), (7, .int (nI I)), (8, .int (nI K)), (9, .int (nI N)), (10, .int (nI j))] dL_does_466 (by decide) rfl ?_
      refine hl_iload h 0 dL_does_468 rfl ?_
      refine hl_if_eq_F h 505 dL_does_470 (by decide) (by decide) ?_
      refine hl_iload h 1 dL_does_473 rfl ?_
      refine hl_if_lt h 491 dL_does_475 (by decide) (fun c9 => ?_) (fun c9 => ?_)
      · refine hl_aload_n h 4 dL_does_491 rfl ?_
        refine hl_iconst h 0 dL_does_492 (by decide) ?_
        refine hl_callSiD h (st := []) (c_L_sum l D cI cZ cJ a r3 g7 0) (va_cwS 2 h.2.2.2.2.1 gL_does_L_sum rfl rfl rfl (by decide +kernel) ⟨Nat.le_of_ble_eq_true rfl, Nat.le_of_ble_eq_true rfl⟩) dL_does_493 rfl (Nat.le_of_ble_eq_true rfl) ⟨Nat.le_of_ble_eq_true rfl, Nat.le_of_ble_eq_true rfl⟩ rfl ?_
        refine hl_iload h 2 dL_does_496 rfl ?_
        refine hl_icmp_ne_F h 505 dL_does_498 (by decide) (hneg c9) ?_
        refine hl_iconst h 1 dL_does_501 (by decide) ?_
        refine hl_goto h 506 dL_does_502 (by decide) ?_
        exact hend dL_does_506 (by rw [e4]; exact hI2)
      · refine hl_aload_n h 4 dL_does_478 rfl ?_
        refine hl_iconst h 0 dL_does_479 (by decide) ?_
        refine hl_callSiD h (st := []) (c_L_sum l D cI cZ cJ a r3 g7 0) (va_cwS 2 h.2.2.2.2.1 gL_does_L_sum rfl rfl rfl (by decide +kernel) ⟨Nat.le_of_ble_eq_true rfl, Nat.le_of_ble_eq_true rfl⟩) dL_does_480 rfl (Nat.le_of_ble_eq_true rfl) ⟨Nat.le_of_ble_eq_true rfl, Nat.le_of_ble_eq_true rfl⟩ rfl ?_
        refine hl_iload h 2 dL_does_483 rfl ?_
        refine hl_icmp_le_F h 505 dL_does_485 (by decide) (hpos c9) ?_
        refine hl_goto h 501 dL_does_488 (by decide) ?_
        refine hl_iconst h 1 dL_does_501 (by decide) ?_
        refine hl_goto h 506 dL_does_502 (by decide) ?_
        exact hend dL_does_506 (by rw [e4]; exact hI2)

set_option maxHeartbeats 4000000 in
set_option maxRecDepth 100000 in
theorem d_burn {p : Program} {l : Launch} {e : Env} {s : State} {m : MethodId} {args : Array Value} {below : List Frame} {meth : Method} {c : Code} {D : va_G} {cI cZ cJ : ClassId} {A : Nat → Prop} {Q : State → Prop} {a : Nat → Nat} {cn : Nat} {lin : Int32} {N M T P : Nat} {t g r : Nat → Nat → Int32} (hc : cn < 100) (hJ : hp_J cn lin N M T P t g r) (h : hl_C p s m args c cL_does 19 wsL_does RL D (hl_ty cI cZ cJ) A) {V W I K : Nat} (hW : W < 2147483648) (hI : I < 4) (hK : K < 2) {J : Int32}  (hend : ∀ {r9 g9 : Nat → Nat → Int32} {pc : Nat} {ls : List (Nat × Value)}, decode cL_does pc = .ok (.ireturn, 1) → hp_I (cn + 1) lin g9 r9 → hl_X p l e ({ frames := 5, cells := 0, slots := 0, locals := 113 } : Room) s m args below meth c 19 D A 0 0 Q (hl_LW a cI cZ r9 g9) pc ls [.int 1]) :
    hl_X p l e ({ frames := 5, cells := 0, slots := 0, locals := 113 } : Room) s m args below meth c 19 D A 0 0 Q (hl_LW a cI cZ r g) 509 [(0, .ref (a 0)), (1, .ref (a 25)), (2, .ref (a 26)), (3, .ref (a 27)), (4, .ref (a 28)), (5, .int (nI V)), (6, .int (nI W)), (7, .int (nI I)), (8, .int (nI K)), (9, .int (nI N)), (10, .int J)] [] := by
  obtain ⟨j0, jR, jN, jT, jB, jS, jrm, jl, jp, jP, j60⟩ := id hJ
  have hok : hl_ok g N M := jR.1
  obtain ⟨hN, hcc, hM, hm, hbk, hpt, hbr⟩ := id hok
  have h23 : g 23 0 = nI T := jR.2.1.2
  have vI : vp_in (nI I) 4 := vp_in_nI hI (by decide)
  have vK : vp_in (nI K) 2 := vp_in_nI hK (by decide)
  obtain ⟨H, hH, eH⟩ := hp_points jR (nI (W % 10))
  refine hl_iload h 6 dL_does_509 rfl ?_
  refine hl_bipush h 10 dL_does_511 (by decide) ?_
  refine hl_irem h dL_does_513 (by decide) ?_
  refine hl_topc (nI (W % 10)) (pk_rem (a := W) (d := 10) (by omega) (by omega) (by omega)) ?_
  refine hl_istore h [(15, .int (nI (W % 10))), (0, .ref (a 0)), (1, .ref (a 25)), (2, .ref (a 26)), (3, .ref (a 27)), (4, .ref (a 28)), (5, .int (nI V)), (6, .int (nI W)), (7, .int (nI I)), (8, .int (nI K)), (9, .int (nI N)), (10, .int J)] dL_does_514 (by decide) rfl ?_
  refine hl_aload_n h 1 dL_does_516 rfl ?_
  refine hl_iload h 0 dL_does_517 rfl ?_
  refine hl_callPViD h (st := []) (wc := hl_WC a cI cZ g) (wr := hl_LR a cI r) [4, 5, 6, 7, 8, 9, 10, 11, 12, 13, 14, 15, 16, 17, 18, 19, 20, 21, 22, 23, 24, 25, 26, 27, 28] [0, 1, 2, 3] rfl rfl (by decide) (by decide) (by decide) (c_X5_points l D cI cZ cJ a g (nI (W % 10)) N M hok (vp_in_nI (by omega) (by decide))) (cwV 1 h.2.2.2.2.1 gL_does_X5_points rfl rfl rfl (by decide +kernel) ⟨Nat.le_of_ble_eq_true rfl, Nat.le_of_ble_eq_true rfl⟩) hl_lw_4 rfl dL_does_519 rfl (Nat.le_of_ble_eq_true rfl) ⟨Nat.le_of_ble_eq_true rfl, Nat.le_of_ble_eq_true rfl⟩ rfl ?_
  refine hl_wd (w' := hl_LW a cI cZ r g) rfl ?_
  refine hl_topc (nI H) eH ?_
  refine hl_istore h [(16, .int (nI H)), (15, .int (nI (W % 10))), (0, .ref (a 0)), (1, .ref (a 25)), (2, .ref (a 26)), (3, .ref (a 27)), (4, .ref (a 28)), (5, .int (nI V)), (6, .int (nI W)), (7, .int (nI I)), (8, .int (nI K)), (9, .int (nI N)), (10, .int J)] dL_does_522 (by decide) rfl ?_
  refine hl_iload h 0 dL_does_524 rfl ?_
  refine hl_if_eq h 587 dL_does_526 (by decide) (fun c1 => ?_) (fun c1 => ?_)
  · refine hl_iconst h 1 dL_does_587 (by decide) ?_
    refine hl_goto h 592 dL_does_588 (by decide) ?_
    exact hend dL_does_592 (hp_skip hc hJ)
  · have hH0 : 0 < H := Nat.pos_of_ne_zero (fun z => c1 (by rw [z]; rfl))
    refine hl_aload_n h 2 dL_does_529 rfl ?_
    refine hl_iload h 1 dL_does_530 rfl ?_
    refine hl_iload h 9 dL_does_532 rfl ?_
    refine hl_iconst h 1 dL_does_534 (by decide) ?_
    refine hl_iload h 8 dL_does_535 rfl ?_
    refine hl_bipush h 10 dL_does_537 (by decide) ?_
    refine hl_idiv h dL_does_539 (by decide) ?_
    refine hl_topc (nI (W / 10)) (pk_div (a := W) (d := 10) (by omega) (by omega) (by omega)) ?_
    refine hl_iload h 0 dL_does_540 rfl ?_
    refine hl_bipush h 100 dL_does_542 (by decide) ?_
    refine hl_icmp_ge h 552 dL_does_544 (by decide) (fun c2 => ?_) (fun c2 => ?_)
    · have hHg : 100 ≤ H := Nat.not_lt.mp (fun z => nI_ge (a := H) (b := 100) z (by omega) c2)
      refine hl_bipush h 100 dL_does_552 (by decide) ?_
      refine hl_irem h dL_does_554 (by decide) ?_
      refine hl_topc (nI ((W / 10) % 100)) (pk_rem (a := (W / 10)) (d := 100) (by omega) (by omega) (by omega)) ?_
      refine hl_iadd h dL_does_555 ?_
      refine hl_topc (nI (1 + ((W / 10) % 100))) (nI_add _ _) ?_
      refine hl_callPViD h (st := []) (wc := hl_WC a cI cZ g) (wr := hl_LR a cI r) [4, 5, 6, 7, 8, 9, 10, 11, 12, 13, 14, 15, 16, 17, 18, 19, 20, 21, 22, 23, 24, 25, 26, 27, 28] [0, 1, 2, 3] rfl rfl (by decide) (by decide) (by decide) (c_X5_burn l D cI cZ cJ a g (nI (W % 10)) (nI I) (nI (1 + ((W / 10) % 100))) N M hok (vp_in_nI (by omega) (by decide)) vI (nI_nlt (b := 1) (by omega) (by omega)) (nI_le (b := 100) (by omega) (by omega)) (by rw [eH]; exact nI_le (by omega) (by omega))) (cwV 3 h.2.2.2.2.1 gL_does_X5_burn rfl rfl rfl (by decide +kernel) ⟨Nat.le_of_ble_eq_true rfl, Nat.le_of_ble_eq_true rfl⟩) hl_lw_4 rfl dL_does_556 rfl (Nat.le_of_ble_eq_true rfl) ⟨Nat.le_of_ble_eq_true rfl, Nat.le_of_ble_eq_true rfl⟩ rfl ?_
      refine hl_wd (w' := hl_LW a cI cZ r (f_X5_burnEarliest g M (nI (W % 10)) (nI I) (nI (1 + ((W / 10) % 100))))) rfl ?_
      refine hl_topc (nI (H - (1 + (W / 10) % 100))) (hp_burnpts hc hJ hI eH (by omega) (by omega) (by omega)) ?_
      refine hl_nmPG (fun g3 e4 => ?_)
      refine hl_iload h 0 dL_does_559 rfl ?_
      refine hl_iconst h 1 dL_does_561 (by decide) ?_
      refine hl_isub h dL_does_562 ?_
      refine hl_iload h 8 dL_does_563 rfl ?_
      refine hl_bipush h 10 dL_does_565 (by decide) ?_
      refine hl_idiv h dL_does_567 (by decide) ?_
      refine hl_topc (nI (W / 10)) (pk_div (a := W) (d := 10) (by omega) (by omega) (by omega)) ?_
      refine hl_iload h 0 dL_does_568 rfl ?_
      refine hl_bipush h 100 dL_does_570 (by decide) ?_
      refine hl_icmp_ge_T h 580 dL_does_572 (by decide) c2 ?_
      refine hl_bipush h 100 dL_does_580 (by decide) ?_
      refine hl_irem h dL_does_582 (by decide) ?_
      refine hl_topc (nI ((W / 10) % 100)) (pk_rem (a := (W / 10)) (d := 100) (by omega) (by omega) (by omega)) ?_
      refine hl_isub h dL_does_583 ?_
      refine hl_icmp_ne_F h 591 dL_does_584 (by decide) (hp_sub3 (by omega) (by omega)) ?_
      refine hl_iconst h 1 dL_does_587 (by decide) ?_
      refine hl_goto h 592 dL_does_588 (by decide) ?_
      exact hend dL_does_592 (by rw [e4]; exact hp_burn hc hJ hI (by omega) (by omega))
    · have hHl : H < 100 := Nat.not_le.mp (fun z => c2 (nI_le (a := 100) z (by omega)))
      have hmd : W / 10 % H < H := Nat.mod_lt _ hH0
      refine hl_iload h 0 dL_does_547 rfl ?_
      refine hl_goto h 554 dL_does_549 (by decide) ?_
      refine hl_irem h dL_does_554 (nI_ne0 hH0 (by omega)) ?_
      refine hl_topc (nI ((W / 10) % H)) (pk_rem (a := (W / 10)) (d := H) (by omega) (by omega) (by omega)) ?_
      refine hl_iadd h dL_does_555 ?_
      refine hl_topc (nI (1 + ((W / 10) % H))) (nI_add _ _) ?_
      refine hl_callPViD h (st := []) (wc := hl_WC a cI cZ g) (wr := hl_LR a cI r) [4, 5, 6, 7, 8, 9, 10, 11, 12, 13, 14, 15, 16, 17, 18, 19, 20, 21, 22, 23, 24, 25, 26, 27, 28] [0, 1, 2, 3] rfl rfl (by decide) (by decide) (by decide) (c_X5_burn l D cI cZ cJ a g (nI (W % 10)) (nI I) (nI (1 + ((W / 10) % H))) N M hok (vp_in_nI (by omega) (by decide)) vI (nI_nlt (b := 1) (by omega) (by omega)) (nI_le (b := 100) (by omega) (by omega)) (by rw [eH]; exact nI_le (by omega) (by omega))) (cwV 3 h.2.2.2.2.1 gL_does_X5_burn rfl rfl rfl (by decide +kernel) ⟨Nat.le_of_ble_eq_true rfl, Nat.le_of_ble_eq_true rfl⟩) hl_lw_4 rfl dL_does_556 rfl (Nat.le_of_ble_eq_true rfl) ⟨Nat.le_of_ble_eq_true rfl, Nat.le_of_ble_eq_true rfl⟩ rfl ?_
      refine hl_wd (w' := hl_LW a cI cZ r (f_X5_burnEarliest g M (nI (W % 10)) (nI I) (nI (1 + ((W / 10) % H))))) rfl ?_
      refine hl_topc (nI (H - (1 + (W / 10) % H))) (hp_burnpts hc hJ hI eH (by omega) (by omega) (by omega)) ?_
      refine hl_nmPG (fun g5 e6 => ?_)
      refine hl_iload h 0 dL_does_559 rfl ?_
      refine hl_iconst h 1 dL_does_561 (by decide) ?_
      refine hl_isub h dL_does_562 ?_
      refine hl_iload h 8 dL_does_563 rfl ?_
      refine hl_bipush h 10 dL_does_565 (by decide) ?_
      refine hl_idiv h dL_does_567 (by decide) ?_
      refine hl_topc (nI (W / 10)) (pk_div (a := W) (d := 10) (by omega) (by omega) (by omega)) ?_
      refine hl_iload h 0 dL_does_568 rfl ?_
      refine hl_bipush h 100 dL_does_570 (by decide) ?_
      refine hl_icmp_ge_F h 580 dL_does_572 (by decide) c2 ?_
      refine hl_iload h 0 dL_does_575 rfl ?_
      refine hl_goto h 582 dL_does_577 (by decide) ?_
      refine hl_irem h dL_does_582 (nI_ne0 hH0 (by omega)) ?_
      refine hl_topc (nI ((W / 10) % H)) (pk_rem (a := (W / 10)) (d := H) (by omega) (by omega) (by omega)) ?_
      refine hl_isub h dL_does_583 ?_
      refine hl_icmp_ne_F h 591 dL_does_584 (by decide) (hp_sub3 (by omega) (by omega)) ?_
      refine hl_iconst h 1 dL_does_587 (by decide) ?_
      refine hl_goto h 592 dL_does_588 (by decide) ?_
      exact hend dL_does_592 (by rw [e6]; exact hp_burn hc hJ hI (by omega) (by omega))

set_option maxHeartbeats 4000000 in
set_option maxRecDepth 100000 in
theorem d_rest {p : Program} {l : Launch} {e : Env} {s : State} {m : MethodId} {args : Array Value} {below : List Frame} {meth : Method} {c : Code} {D : va_G} {cI cZ cJ : ClassId} {A : Nat → Prop} {Q : State → Prop} {a : Nat → Nat} {cn : Nat} {lin : Int32} {N M T P : Nat} {t g r : Nat → Nat → Int32} (hc : cn < 100) (hJ : hp_J cn lin N M T P t g r) (h : hl_C p s m args c cL_does 19 wsL_does RL D (hl_ty cI cZ cJ) A) {V W I K : Nat} (hW : W < 2147483648) (hI : I < 4) (hK : K < 2) {J : Int32}  (hend : ∀ {r9 g9 : Nat → Nat → Int32} {pc : Nat} {ls : List (Nat × Value)}, decode cL_does pc = .ok (.ireturn, 1) → hp_I (cn + 1) lin g9 r9 → hl_X p l e ({ frames := 5, cells := 0, slots := 0, locals := 113 } : Room) s m args below meth c 19 D A 0 0 Q (hl_LW a cI cZ r9 g9) pc ls [.int 1]) :
    hl_X p l e ({ frames := 5, cells := 0, slots := 0, locals := 113 } : Room) s m args below meth c 19 D A 0 0 Q (hl_LW a cI cZ r g) 593 [(0, .ref (a 0)), (1, .ref (a 25)), (2, .ref (a 26)), (3, .ref (a 27)), (4, .ref (a 28)), (5, .int (nI V)), (6, .int (nI W)), (7, .int (nI I)), (8, .int (nI K)), (9, .int (nI N)), (10, .int J)] [] := by
  obtain ⟨j0, jR, jN, jT, jB, jS, jrm, jl, jp, jP, j60⟩ := id hJ
  have hok : hl_ok g N M := jR.1
  obtain ⟨hN, hcc, hM, hm, hbk, hpt, hbr⟩ := id hok
  have h23 : g 23 0 = nI T := jR.2.1.2
  have vI : vp_in (nI I) 4 := vp_in_nI hI (by decide)
  have vK : vp_in (nI K) 2 := vp_in_nI hK (by decide)
  refine hl_iload h 6 dL_does_593 rfl ?_
  refine hl_iconst h 4 dL_does_595 (by decide) ?_
  refine hl_irem h dL_does_596 (by decide) ?_
  refine hl_topc (nI (W % 4)) (pk_rem (a := W) (d := 4) (by omega) (by omega) (by omega)) ?_
  refine hl_if_ne h 637 dL_does_597 (by decide) (fun c1 => ?_) (fun c1 => ?_)
  · refine hl_aload_n h 0 dL_does_637 rfl ?_
    refine hl_callPViD h (st := []) (wc := hl_WC a cI cZ g) (wr := hl_LR a cI r) [4, 5, 6, 7, 8, 9, 10, 11, 12, 13, 14, 15, 16, 17, 18, 19, 20, 21, 22, 23, 24, 25, 26, 27, 28] [0, 1, 2, 3] rfl rfl (by decide) (by decide) (by decide) (c_X5_today l D cI cZ cJ a g) (cwV 0 h.2.2.2.2.1 gL_does_X5_today rfl rfl rfl (by decide +kernel) ⟨Nat.le_of_ble_eq_true rfl, Nat.le_of_ble_eq_true rfl⟩) hl_lw_4 rfl dL_does_638 rfl (Nat.le_of_ble_eq_true rfl) ⟨Nat.le_of_ble_eq_true rfl, Nat.le_of_ble_eq_true rfl⟩ rfl ?_
    refine hl_wd (w' := hl_LW a cI cZ r g) rfl ?_
    refine hl_topc (nI T) h23 ?_
    refine hl_istore h [(17, .int (nI T)), (0, .ref (a 0)), (1, .ref (a 25)), (2, .ref (a 26)), (3, .ref (a 27)), (4, .ref (a 28)), (5, .int (nI V)), (6, .int (nI W)), (7, .int (nI I)), (8, .int (nI K)), (9, .int (nI N)), (10, .int J)] dL_does_641 (by decide) rfl ?_
    refine hl_aload_n h 1 dL_does_643 rfl ?_
    refine hl_callPViD h (st := []) (wc := hl_WC a cI cZ g) (wr := hl_LR a cI r) [4, 5, 6, 7, 8, 9, 10, 11, 12, 13, 14, 15, 16, 17, 18, 19, 20, 21, 22, 23, 24, 25, 26, 27, 28] [0, 1, 2, 3] rfl rfl (by decide) (by decide) (by decide) (c_X5_night l D cI cZ cJ a g N M hok (by rw [h23]; exact nI_lt (b := 300) (by omega) (by decide))) (cwV 0 h.2.2.2.2.1 gL_does_X5_night rfl rfl rfl (by decide +kernel) ⟨Nat.le_of_ble_eq_true rfl, Nat.le_of_ble_eq_true rfl⟩) hl_lw_4 rfl dL_does_644 rfl (Nat.le_of_ble_eq_true rfl) ⟨Nat.le_of_ble_eq_true rfl, Nat.le_of_ble_eq_true rfl⟩ rfl ?_
    refine hl_wd (w' := hl_LW a cI cZ r (f_X5_night g)) rfl ?_
    refine hl_nmPG (fun g2 e3 => ?_)
    refine hl_if_lt_F h 665 dL_does_647 (by decide) (hp_missed_nn g (g 23 0) hN) ?_
    refine hl_aload_n h 1 dL_does_650 rfl ?_
    refine hl_callPViD h (st := []) (wc := hl_WC a cI cZ g2) (wr := hl_LR a cI r) [4, 5, 6, 7, 8, 9, 10, 11, 12, 13, 14, 15, 16, 17, 18, 19, 20, 21, 22, 23, 24, 25, 26, 27, 28] [0, 1, 2, 3] rfl rfl (by decide) (by decide) (by decide) (c_X5_today l D cI cZ cJ a g2) (cwV 0 h.2.2.2.2.1 gL_does_X5_today rfl rfl rfl (by decide +kernel) ⟨Nat.le_of_ble_eq_true rfl, Nat.le_of_ble_eq_true rfl⟩) hl_lw_4 rfl dL_does_651 rfl (Nat.le_of_ble_eq_true rfl) ⟨Nat.le_of_ble_eq_true rfl, Nat.le_of_ble_eq_true rfl⟩ rfl ?_
    refine hl_wd (w' := hl_LW a cI cZ r g2) rfl ?_
    refine hl_iload h 0 dL_does_654 rfl ?_
    refine hl_iconst h 1 dL_does_656 (by decide) ?_
    refine hl_iadd h dL_does_657 ?_
    refine hl_topc (nI (T + 1)) (nI_add _ _) ?_
    refine hl_icmp_ne_F h 665 dL_does_658 (by decide) (by rw [e3]; exact hp_night23 g h23) ?_
    refine hl_iconst h 1 dL_does_661 (by decide) ?_
    refine hl_goto h 666 dL_does_662 (by decide) ?_
    exact hend dL_does_666 (by rw [e3]; exact hp_night hc hJ)
  · refine hl_aload_n h 0 dL_does_600 rfl ?_
    refine hl_iconst h 0 dL_does_601 (by decide) ?_
    refine hl_callSiD h (st := []) (c_L_sum l D cI cZ cJ a r g 0) (va_cwS 2 h.2.2.2.2.1 gL_does_L_sum rfl rfl rfl (by decide +kernel) ⟨Nat.le_of_ble_eq_true rfl, Nat.le_of_ble_eq_true rfl⟩) dL_does_602 rfl (Nat.le_of_ble_eq_true rfl) ⟨Nat.le_of_ble_eq_true rfl, Nat.le_of_ble_eq_true rfl⟩ rfl ?_
    refine hl_istore h [(17, .int (r_L_sum g 0)), (0, .ref (a 0)), (1, .ref (a 25)), (2, .ref (a 26)), (3, .ref (a 27)), (4, .ref (a 28)), (5, .int (nI V)), (6, .int (nI W)), (7, .int (nI I)), (8, .int (nI K)), (9, .int (nI N)), (10, .int J)] dL_does_605 (by decide) rfl ?_
    refine hl_aload_n h 1 dL_does_607 rfl ?_
    refine hl_callPViD h (st := []) (wc := hl_WC a cI cZ g) (wr := hl_LR a cI r) [4, 5, 6, 7, 8, 9, 10, 11, 12, 13, 14, 15, 16, 17, 18, 19, 20, 21, 22, 23, 24, 25, 26, 27, 28] [0, 1, 2, 3] rfl rfl (by decide) (by decide) (by decide) (c_X5_settle l D cI cZ cJ a g) (cwV 0 h.2.2.2.2.1 gL_does_X5_settle rfl rfl rfl (by decide +kernel) ⟨Nat.le_of_ble_eq_true rfl, Nat.le_of_ble_eq_true rfl⟩) hl_lw_4 rfl dL_does_608 rfl (Nat.le_of_ble_eq_true rfl) ⟨Nat.le_of_ble_eq_true rfl, Nat.le_of_ble_eq_true rfl⟩ rfl ?_
    refine hl_wd (w' := hl_LW a cI cZ r ((hl_it b_X1_payAll 0 4 (g, 0)).1)) rfl ?_
    refine hl_nmPG (fun g4 e5 => ?_)
    refine hl_if_lt_F h 635 dL_does_611 (by decide) (hp_settle_nn jR) ?_
    refine hl_aload_n h 1 dL_does_614 rfl ?_
    refine hl_iconst h 0 dL_does_615 (by decide) ?_
    refine hl_callSiD h (st := []) (c_L_sum l D cI cZ cJ a r g4 0) (va_cwS 2 h.2.2.2.2.1 gL_does_L_sum rfl rfl rfl (by decide +kernel) ⟨Nat.le_of_ble_eq_true rfl, Nat.le_of_ble_eq_true rfl⟩) dL_does_616 rfl (Nat.le_of_ble_eq_true rfl) ⟨Nat.le_of_ble_eq_true rfl, Nat.le_of_ble_eq_true rfl⟩ rfl ?_
    refine hl_iload h 0 dL_does_619 rfl ?_
    refine hl_icmp_ne_F h 635 dL_does_621 (by decide) (by rw [e5]; exact hp_settle_sum jR) ?_
    refine hl_aload_n h 1 dL_does_624 rfl ?_
    refine hl_callPViD h (st := []) (wc := hl_WC a cI cZ g4) (wr := hl_LR a cI r) [4, 5, 6, 7, 8, 9, 10, 11, 12, 13, 14, 15, 16, 17, 18, 19, 20, 21, 22, 23, 24, 25, 26, 27, 28] [0, 1, 2, 3] rfl rfl (by decide) (by decide) (by decide) (c_X5_settle l D cI cZ cJ a g4) (cwV 0 h.2.2.2.2.1 gL_does_X5_settle rfl rfl rfl (by decide +kernel) ⟨Nat.le_of_ble_eq_true rfl, Nat.le_of_ble_eq_true rfl⟩) hl_lw_4 rfl dL_does_625 rfl (Nat.le_of_ble_eq_true rfl) ⟨Nat.le_of_ble_eq_true rfl, Nat.le_of_ble_eq_true rfl⟩ rfl ?_
    refine hl_wd (w' := hl_LW a cI cZ r ((hl_it b_X1_payAll 0 4 (g4, 0)).1)) rfl ?_
    refine hl_nmPG (fun g6 e7 => ?_)
    refine hl_if_ne_F h 635 dL_does_628 (by decide) (by rw [e5]; exact hp_settle_0 jR) ?_
    refine hl_iconst h 1 dL_does_631 (by decide) ?_
    refine hl_goto h 636 dL_does_632 (by decide) ?_
    exact hend dL_does_636 (by rw [e7, e5]; exact hp_settle hc hJ)
