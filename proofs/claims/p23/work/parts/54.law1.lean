/-! The law: one step -/
set_option maxHeartbeats 4000000 in
set_option maxRecDepth 100000 in
theorem law_step {p : Program} {l : Launch} {e : Env} {s : State} {m : MethodId} {below : List Frame} {meth : Method} {c : Code} {D : va_G} {cI cZ cJ : ClassId} {A : Nat → Prop} {Q : State → Prop} {a : Nat → Nat} {bs L : Nat} {xs : Nat → Int32} (H : hl_H p s m c D cI cZ cJ A bs L xs) {c0 : Nat} {lin : Int32} {N M T P : Nat} {t g r : Nat → Nat → Int32} (hc : c0 < 100) (hJ : hp_J c0 lin N M T P t g r) (kk : ∀ (lin9 : Int32) (g9 r9 : Nat → Nat → Int32), hp_I (c0 + 1) lin9 g9 r9 → hl_X p l e room_1 s m #[Value.ref bs] below meth c 13 D A 29 1001 Q (hl_LW a cI cZ r9 g9) 280 [(0, .ref bs), (1, .ref (a 0)), (2, .ref (a 25)), (3, .ref (a 26)), (4, .ref (a 27)), (5, .ref (a 28)), (6, .int lin9), (7, .int 1), (8, .int (nI c0))] []) : hl_X p l e room_1 s m #[Value.ref bs] below meth c 13 D A 29 1001 Q (hl_LW a cI cZ r g) 39 [(0, .ref bs), (1, .ref (a 0)), (2, .ref (a 25)), (3, .ref (a 26)), (4, .ref (a 27)), (5, .ref (a 28)), (6, .int lin), (7, .int 1), (8, .int (nI c0))] [] := by
  obtain ⟨h, hX, hbl, hbA, hL⟩ := id H
  refine hl_iload h 8 dL_law_39 rfl ?_
  refine hl_bipush h 100 dL_law_41 (by decide) ?_
  refine hl_icmp_ge_F h 286 dL_law_43 (by decide) (nI_ge (a := c0) (b := 100) (by omega) (by decide)) ?_
  refine hl_iload h 7 dL_law_46 rfl ?_
  refine hl_if_eq_F h 286 dL_law_48 (by decide) (by decide) ?_
  refine hl_aload_n h 0 dL_law_51 rfl ?_
  refine hl_iload h 8 dL_law_52 rfl ?_
  refine hl_told H (k := c0) (by omega) dL_law_54 (Nat.le_of_ble_eq_true rfl) ⟨Nat.le_of_ble_eq_true rfl, Nat.le_of_ble_eq_true rfl⟩ ?_
  obtain ⟨V, hV, eV⟩ := hp_told_nn L xs (c0)
  refine hl_topc (nI V) eV ?_
  refine hl_istore h [(9, .int (nI V)), (0, .ref bs), (1, .ref (a 0)), (2, .ref (a 25)), (3, .ref (a 26)), (4, .ref (a 27)), (5, .ref (a 28)), (6, .int lin), (7, .int 1), (8, .int (nI c0))] dL_law_57 (by decide) rfl ?_
  refine hl_aload_n h 1 dL_law_59 rfl ?_
  refine hl_iload h 9 dL_law_60 rfl ?_
  refine hl_iconst h 2 dL_law_62 (by decide) ?_
  refine hl_iadd h dL_law_63 ?_
  refine hl_topc (nI (c0 + 2)) (nI_add _ _) ?_
  refine hl_told H (k := c0 + 2) (by omega) dL_law_64 (Nat.le_of_ble_eq_true rfl) ⟨Nat.le_of_ble_eq_true rfl, Nat.le_of_ble_eq_true rfl⟩ ?_
  obtain ⟨W, hW, eW⟩ := hp_told_nn L xs (c0 + 2)
  refine hl_topc (nI W) eW ?_
  refine hl_istore h [(10, .int (nI W)), (9, .int (nI V)), (0, .ref bs), (1, .ref (a 0)), (2, .ref (a 25)), (3, .ref (a 26)), (4, .ref (a 27)), (5, .ref (a 28)), (6, .int lin), (7, .int 1), (8, .int (nI c0))] dL_law_67 (by decide) rfl ?_
  have sw : ∀ lin9 : Int32, lin9 = (if V % 10 = 1 then lin + nI (1 + W % 6) else lin) → hl_X p l e room_1 s m #[Value.ref bs] below meth c 13 D A 29 1001 Q (hl_LW a cI cZ r g) 92 [(10, .int (nI W)), (9, .int (nI V)), (0, .ref bs), (1, .ref (a 0)), (2, .ref (a 25)), (3, .ref (a 26)), (4, .ref (a 27)), (5, .ref (a 28)), (6, .int lin), (7, .int 1), (8, .int (nI c0))] [.int lin9] := by
    intro lin9 elin
    refine hl_istore h [(6, .int lin9), (10, .int (nI W)), (9, .int (nI V)), (0, .ref bs), (1, .ref (a 0)), (2, .ref (a 25)), (3, .ref (a 26)), (4, .ref (a 27)), (5, .ref (a 28)), (7, .int 1), (8, .int (nI c0))] dL_law_92 (by decide) rfl ?_
    refine hl_aload_n h 4 dL_law_94 rfl ?_
    refine hl_aload_n h 5 dL_law_95 rfl ?_
    refine hl_aload_n h 6 dL_law_96 rfl ?_
    refine hl_aload h 7 dL_law_97 rfl ?_
    refine hl_aload h 8 dL_law_99 rfl ?_
    refine hl_iload h 2 dL_law_101 rfl ?_
    refine hl_iload h 1 dL_law_103 rfl ?_
    refine hl_callSi h (st := []) (c_L_does l D cI cZ cJ a hc hJ V W hV hW) (va_cwS 7 h.2.2.2.2.1 gL_law_L_does rfl rfl rfl (by decide +kernel) ⟨Nat.le_of_ble_eq_true rfl, Nat.le_of_ble_eq_true rfl⟩) dL_law_105 rfl (Nat.le_of_ble_eq_true rfl) ⟨Nat.le_of_ble_eq_true rfl, Nat.le_of_ble_eq_true rfl⟩ rfl (fun x9 w9 hp => ?_)
    obtain ⟨rfl, r9, g9, rfl, hI9⟩ := hp
    rw [← elin] at hI9
    obtain ⟨N, M, T, P, t, hJ9⟩ := id hI9
    have hok9 : hl_ok g9 N M := hJ9.2.1.1
    have hsum9 : r_L_sum g9 1 = lin9 := (hp_sum1 g9).trans hJ9.2.2.2.2.2.2.2.1
    refine hl_if_eq_F h 125 dL_law_108 (by decide) (by decide) ?_
    refine hl_aload_n h 4 dL_law_111 rfl ?_
    refine hl_iconst h 1 dL_law_112 (by decide) ?_
    refine hl_callSiD h (st := []) (c_L_sum l D cI cZ cJ a r9 g9 1) (va_cwS 2 h.2.2.2.2.1 gL_law_L_sum rfl rfl rfl (by decide +kernel) ⟨Nat.le_of_ble_eq_true rfl, Nat.le_of_ble_eq_true rfl⟩) dL_law_113 rfl (Nat.le_of_ble_eq_true rfl) ⟨Nat.le_of_ble_eq_true rfl, Nat.le_of_ble_eq_true rfl⟩ rfl ?_
    refine hl_iload h 0 dL_law_116 rfl ?_
    refine hl_icmp_ne_F h 125 dL_law_118 (by decide) hsum9 ?_
    refine hl_iconst h 1 dL_law_121 (by decide) ?_
    refine hl_goto h 126 dL_law_122 (by decide) ?_
    refine hl_istore h [(7, .int 1), (6, .int lin9), (10, .int (nI W)), (9, .int (nI V)), (0, .ref bs), (1, .ref (a 0)), (2, .ref (a 25)), (3, .ref (a 26)), (4, .ref (a 27)), (5, .ref (a 28)), (8, .int (nI c0))] dL_law_126 (by decide) rfl ?_
    refine hl_iconst h 0 dL_law_128 (by decide) ?_
    refine hl_istore h [(11, .int 0), (7, .int 1), (6, .int lin9), (10, .int (nI W)), (9, .int (nI V)), (0, .ref bs), (1, .ref (a 0)), (2, .ref (a 25)), (3, .ref (a 26)), (4, .ref (a 27)), (5, .ref (a 28)), (8, .int (nI c0))] dL_law_129 (by decide) rfl ?_
    refine hl_lsub [5, 6, 7, 8, 9, 10, 2, 1, 11, 0] rfl ?_
    have lp131 : ∀ (n i : Nat), i + n = 8 → hl_X p l e room_1 s m #[Value.ref bs] below meth c 13 D A 29 1001 Q (hl_LW a cI cZ r9 g9) 131 [(0, .ref bs), (1, .ref (a 0)), (2, .ref (a 25)), (3, .ref (a 26)), (4, .ref (a 27)), (5, .ref (a 28)), (6, .int lin9), (7, .int 1), (8, .int (nI c0)), (11, .int (nI i))] [] := by
      intro n
      induction n with
      | zero =>
        intro i hi
        refine hl_iload h 9 dL_law_131 rfl ?_
        refine hl_bipush h 8 dL_law_133 (by decide) ?_
        refine hl_icmp_ge_T h 222 dL_law_135 (by decide) (by rw [show i = 8 by omega]; decide) ?_
        refine hl_iconst h 0 dL_law_222 (by decide) ?_
        refine hl_istore h [(11, .int 0), (0, .ref bs), (1, .ref (a 0)), (2, .ref (a 25)), (3, .ref (a 26)), (4, .ref (a 27)), (5, .ref (a 28)), (6, .int lin9), (7, .int 1), (8, .int (nI c0))] dL_law_223 (by decide) rfl ?_
        refine hl_lsub [1, 2, 3, 4, 5, 6, 7, 8, 9, 0] rfl ?_
        have lp225 : ∀ (n i : Nat), i + n = 16 → hl_X p l e room_1 s m #[Value.ref bs] below meth c 13 D A 29 1001 Q (hl_LW a cI cZ r9 g9) 225 [(0, .ref bs), (1, .ref (a 0)), (2, .ref (a 25)), (3, .ref (a 26)), (4, .ref (a 27)), (5, .ref (a 28)), (6, .int lin9), (7, .int 1), (8, .int (nI c0)), (11, .int (nI i))] [] := by
          intro n
          induction n with
          | zero =>
            intro i hi
            refine hl_iload h 9 dL_law_225 rfl ?_
            refine hl_bipush h 16 dL_law_227 (by decide) ?_
            refine hl_icmp_ge_T h 280 dL_law_229 (by decide) (by rw [show i = 16 by omega]; decide) ?_
            refine hl_lsub [0, 1, 2, 3, 4, 5, 6, 7, 8] rfl ?_
            exact kk _ _ _ hI9
          | succ n ih =>
            intro i hi
            refine hl_iload h 9 dL_law_225 rfl ?_
            refine hl_bipush h 16 dL_law_227 (by decide) ?_
            refine hl_icmp_ge_F h 280 dL_law_229 (by decide) (nI_ge (b := 16) (by omega) (by decide)) ?_
            refine hl_iload h 7 dL_law_232 rfl ?_
            refine hl_if_eq_F h 280 dL_law_234 (by decide) (by decide) ?_
            refine hl_aload_n h 1 dL_law_237 rfl ?_
            refine hl_iload h 9 dL_law_238 rfl ?_
            refine hl_iconst h 4 dL_law_240 (by decide) ?_
            refine hl_idiv h dL_law_241 (by decide) ?_
            refine hl_topc (nI (i / 4)) (pk_div (a := i) (d := 4) (by omega) (by omega) (by omega)) ?_
            refine hl_iload h 9 dL_law_242 rfl ?_
            refine hl_iconst h 4 dL_law_244 (by decide) ?_
            refine hl_irem h dL_law_245 (by decide) ?_
            refine hl_topc (nI (i % 4)) (pk_rem (a := i) (d := 4) (by omega) (by omega) (by omega)) ?_
            refine hl_callPViD h (st := []) (wc := hl_WC a cI cZ g9) (wr := hl_LR a cI r9) [4, 5, 6, 7, 8, 9, 10, 11, 12, 13, 14, 15, 16, 17, 18, 19, 20, 21, 22, 23, 24, 25, 26, 27, 28] [0, 1, 2, 3] rfl rfl (by decide) (by decide) (by decide) (c_X5_owes l D cI cZ cJ a g9 (nI (i / 4)) (nI (i % 4)) (vp_in_nI (by omega) (by decide)) (vp_in_nI (by omega) (by decide))) (cwV 2 h.2.2.2.2.1 gL_law_X5_owes rfl rfl rfl (by decide +kernel) ⟨Nat.le_of_ble_eq_true rfl, Nat.le_of_ble_eq_true rfl⟩) hl_lw_4 rfl dL_law_246 rfl (Nat.le_of_ble_eq_true rfl) ⟨Nat.le_of_ble_eq_true rfl, Nat.le_of_ble_eq_true rfl⟩ rfl ?_
            refine hl_wd (w' := hl_LW a cI cZ r9 g9) rfl ?_
            refine hl_if_eq h 267 dL_law_249 (by decide) (fun c1 => ?_) (fun c1 => ?_)
            · refine hl_iconst h 1 dL_law_267 (by decide) ?_
              refine hl_goto h 272 dL_law_268 (by decide) ?_
              refine hl_istore h [(7, .int 1), (0, .ref bs), (1, .ref (a 0)), (2, .ref (a 25)), (3, .ref (a 26)), (4, .ref (a 27)), (5, .ref (a 28)), (6, .int lin9), (8, .int (nI c0)), (11, .int (nI i))] dL_law_272 (by decide) rfl ?_
              refine hl_iinc h 9 (nI (i + 1)) [(11, .int (nI (i + 1))), (7, .int 1), (0, .ref bs), (1, .ref (a 0)), (2, .ref (a 25)), (3, .ref (a 26)), (4, .ref (a 27)), (5, .ref (a 28)), (6, .int lin9), (8, .int (nI c0))] dL_law_274 rfl (hl_inc i) (by decide) rfl ?_
              refine hl_goto h 225 dL_law_277 (by decide) ?_
              refine hl_lsub [2, 3, 4, 5, 6, 7, 8, 1, 9, 0] rfl ?_
              exact ih (i + 1) (by omega)
            · refine hl_aload_n h 1 dL_law_252 rfl ?_
              refine hl_iload h 9 dL_law_253 rfl ?_
              refine hl_iconst h 4 dL_law_255 (by decide) ?_
              refine hl_irem h dL_law_256 (by decide) ?_
              refine hl_topc (nI (i % 4)) (pk_rem (a := i) (d := 4) (by omega) (by omega) (by omega)) ?_
              refine hl_iload h 9 dL_law_257 rfl ?_
              refine hl_iconst h 4 dL_law_259 (by decide) ?_
              refine hl_idiv h dL_law_260 (by decide) ?_
              refine hl_topc (nI (i / 4)) (pk_div (a := i) (d := 4) (by omega) (by omega) (by omega)) ?_
              refine hl_callPViD h (st := []) (wc := hl_WC a cI cZ g9) (wr := hl_LR a cI r9) [4, 5, 6, 7, 8, 9, 10, 11, 12, 13, 14, 15, 16, 17, 18, 19, 20, 21, 22, 23, 24, 25, 26, 27, 28] [0, 1, 2, 3] rfl rfl (by decide) (by decide) (by decide) (c_X5_owes l D cI cZ cJ a g9 (nI (i % 4)) (nI (i / 4)) (vp_in_nI (by omega) (by decide)) (vp_in_nI (by omega) (by decide))) (cwV 2 h.2.2.2.2.1 gL_law_X5_owes rfl rfl rfl (by decide +kernel) ⟨Nat.le_of_ble_eq_true rfl, Nat.le_of_ble_eq_true rfl⟩) hl_lw_4 rfl dL_law_261 rfl (Nat.le_of_ble_eq_true rfl) ⟨Nat.le_of_ble_eq_true rfl, Nat.le_of_ble_eq_true rfl⟩ rfl ?_
              refine hl_wd (w' := hl_LW a cI cZ r9 g9) rfl ?_
              refine hl_if_ne_F h 271 dL_law_264 (by decide) (hp_owes hJ9 (by omega) (by omega) c1) ?_
              refine hl_iconst h 1 dL_law_267 (by decide) ?_
              refine hl_goto h 272 dL_law_268 (by decide) ?_
              refine hl_istore h [(7, .int 1), (0, .ref bs), (1, .ref (a 0)), (2, .ref (a 25)), (3, .ref (a 26)), (4, .ref (a 27)), (5, .ref (a 28)), (6, .int lin9), (8, .int (nI c0)), (11, .int (nI i))] dL_law_272 (by decide) rfl ?_
              refine hl_iinc h 9 (nI (i + 1)) [(11, .int (nI (i + 1))), (7, .int 1), (0, .ref bs), (1, .ref (a 0)), (2, .ref (a 25)), (3, .ref (a 26)), (4, .ref (a 27)), (5, .ref (a 28)), (6, .int lin9), (8, .int (nI c0))] dL_law_274 rfl (hl_inc i) (by decide) rfl ?_
              refine hl_goto h 225 dL_law_277 (by decide) ?_
              refine hl_lsub [2, 3, 4, 5, 6, 7, 8, 1, 9, 0] rfl ?_
              exact ih (i + 1) (by omega)
        exact lp225 16 0 (by omega)
      | succ n ih =>
        intro i hi
        obtain ⟨S, C, hS, hC, k1, k2, k3, k4⟩ := hp_k1 hJ9 (k := i) (by omega)
        refine hl_iload h 9 dL_law_131 rfl ?_
        refine hl_bipush h 8 dL_law_133 (by decide) ?_
        refine hl_icmp_ge_F h 222 dL_law_135 (by decide) (nI_ge (b := 8) (by omega) (by decide)) ?_
        refine hl_iload h 7 dL_law_138 rfl ?_
        refine hl_if_eq_F h 222 dL_law_140 (by decide) (by decide) ?_
        refine hl_aload_n h 1 dL_law_143 rfl ?_
        refine hl_iload h 9 dL_law_144 rfl ?_
        refine hl_iconst h 2 dL_law_146 (by decide) ?_
        refine hl_idiv h dL_law_147 (by decide) ?_
        refine hl_topc (nI (i / 2)) (pk_div (a := i) (d := 2) (by omega) (by omega) (by omega)) ?_
        refine hl_iload h 9 dL_law_148 rfl ?_
        refine hl_iconst h 2 dL_law_150 (by decide) ?_
        refine hl_irem h dL_law_151 (by decide) ?_
        refine hl_topc (nI (i % 2)) (pk_rem (a := i) (d := 2) (by omega) (by omega) (by omega)) ?_
        refine hl_callPViD h (st := []) (wc := hl_WC a cI cZ g9) (wr := hl_LR a cI r9) [4, 5, 6, 7, 8, 9, 10, 11, 12, 13, 14, 15, 16, 17, 18, 19, 20, 21, 22, 23, 24, 25, 26, 27, 28] [0, 1, 2, 3] rfl rfl (by decide) (by decide) (by decide) (c_X5_taken l D cI cZ cJ a g9 (nI (i / 2)) (nI (i % 2)) (vp_in_nI (by omega) (by decide)) (vp_in_nI (by omega) (by decide))) (cwV 2 h.2.2.2.2.1 gL_law_X5_taken rfl rfl rfl (by decide +kernel) ⟨Nat.le_of_ble_eq_true rfl, Nat.le_of_ble_eq_true rfl⟩) hl_lw_4 rfl dL_law_152 rfl (Nat.le_of_ble_eq_true rfl) ⟨Nat.le_of_ble_eq_true rfl, Nat.le_of_ble_eq_true rfl⟩ rfl ?_
        refine hl_wd (w' := hl_LW a cI cZ r9 g9) rfl ?_
        refine hl_topc (nI S) k1 ?_
        refine hl_istore h [(12, .int (nI S)), (0, .ref bs), (1, .ref (a 0)), (2, .ref (a 25)), (3, .ref (a 26)), (4, .ref (a 27)), (5, .ref (a 28)), (6, .int lin9), (7, .int 1), (8, .int (nI c0)), (11, .int (nI i))] dL_law_155 (by decide) rfl ?_
        refine hl_iload h 0 dL_law_157 rfl ?_
        refine hl_aload_n h 2 dL_law_159 rfl ?_
        refine hl_iload h 10 dL_law_160 rfl ?_
        refine hl_iconst h 2 dL_law_162 (by decide) ?_
        refine hl_idiv h dL_law_163 (by decide) ?_
        refine hl_topc (nI (i / 2)) (pk_div (a := i) (d := 2) (by omega) (by omega) (by omega)) ?_
        refine hl_iload h 10 dL_law_164 rfl ?_
        refine hl_iconst h 2 dL_law_166 (by decide) ?_
        refine hl_irem h dL_law_167 (by decide) ?_
        refine hl_topc (nI (i % 2)) (pk_rem (a := i) (d := 2) (by omega) (by omega) (by omega)) ?_
        refine hl_callPViD h (st := [.int (nI S)]) (wc := hl_WC a cI cZ g9) (wr := hl_LR a cI r9) [4, 5, 6, 7, 8, 9, 10, 11, 12, 13, 14, 15, 16, 17, 18, 19, 20, 21, 22, 23, 24, 25, 26, 27, 28] [0, 1, 2, 3] rfl rfl (by decide) (by decide) (by decide) (c_X5_takenByBookings l D cI cZ cJ a g9 (nI (i / 2)) (nI (i % 2)) N M hok9 (vp_in_nI (by omega) (by decide)) (vp_in_nI (by omega) (by decide))) (cwV 2 h.2.2.2.2.1 gL_law_X5_takenByBookings rfl rfl rfl (by decide +kernel) ⟨Nat.le_of_ble_eq_true rfl, Nat.le_of_ble_eq_true rfl⟩) hl_lw_4 rfl dL_law_168 rfl (Nat.le_of_ble_eq_true rfl) ⟨Nat.le_of_ble_eq_true rfl, Nat.le_of_ble_eq_true rfl⟩ rfl ?_
        refine hl_wd (w' := hl_LW a cI cZ r9 g9) rfl ?_
        refine hl_topc (nI S) k2 ?_
        refine hl_icmp_ne_F h 213 dL_law_171 (by decide) rfl ?_
        refine hl_aload_n h 2 dL_law_174 rfl ?_
        refine hl_iload h 10 dL_law_175 rfl ?_
        refine hl_iconst h 2 dL_law_177 (by decide) ?_
        refine hl_idiv h dL_law_178 (by decide) ?_
        refine hl_topc (nI (i / 2)) (pk_div (a := i) (d := 2) (by omega) (by omega) (by omega)) ?_
        refine hl_iload h 10 dL_law_179 rfl ?_
        refine hl_iconst h 2 dL_law_181 (by decide) ?_
        refine hl_irem h dL_law_182 (by decide) ?_
        refine hl_topc (nI (i % 2)) (pk_rem (a := i) (d := 2) (by omega) (by omega) (by omega)) ?_
        refine hl_callPViD h (st := []) (wc := hl_WC a cI cZ g9) (wr := hl_LR a cI r9) [4, 5, 6, 7, 8, 9, 10, 11, 12, 13, 14, 15, 16, 17, 18, 19, 20, 21, 22, 23, 24, 25, 26, 27, 28] [0, 1, 2, 3] rfl rfl (by decide) (by decide) (by decide) (c_X5_free l D cI cZ cJ a g9 (nI (i / 2)) (nI (i % 2)) (vp_in_nI (by omega) (by decide)) (vp_in_nI (by omega) (by decide))) (cwV 2 h.2.2.2.2.1 gL_law_X5_free rfl rfl rfl (by decide +kernel) ⟨Nat.le_of_ble_eq_true rfl, Nat.le_of_ble_eq_true rfl⟩) hl_lw_4 rfl dL_law_183 rfl (Nat.le_of_ble_eq_true rfl) ⟨Nat.le_of_ble_eq_true rfl, Nat.le_of_ble_eq_true rfl⟩ rfl ?_
        refine hl_wd (w' := hl_LW a cI cZ r9 g9) rfl ?_
        refine hl_topc (nI (C - S)) k3 ?_
        refine hl_iload h 0 dL_law_186 rfl ?_
        refine hl_aload_n h 3 dL_law_188 rfl ?_
        refine hl_iload h 10 dL_law_189 rfl ?_
        refine hl_ildN h hl_lw_0 0 rfl (i) dL_law_191 rfl (by omega) (by decide) ?_
        refine hl_topc (nI C) k4 ?_
        refine hl_icmp_ge h 205 dL_law_192 (by decide) (fun c2 => ?_) (fun c2 => ?_)
        · have hCS : C ≤ S := Nat.not_lt.mp (fun z => nI_ge z (by omega) c2)
          refine hl_iconst h 0 dL_law_205 (by decide) ?_
          refine hl_icmp_ne_F h 213 dL_law_206 (by decide) (by rw [show C - S = 0 by omega]; rfl) ?_
          refine hl_iconst h 1 dL_law_209 (by decide) ?_
          refine hl_goto h 214 dL_law_210 (by decide) ?_
          refine hl_istore h [(7, .int 1), (12, .int (nI S)), (0, .ref bs), (1, .ref (a 0)), (2, .ref (a 25)), (3, .ref (a 26)), (4, .ref (a 27)), (5, .ref (a 28)), (6, .int lin9), (8, .int (nI c0)), (11, .int (nI i))] dL_law_214 (by decide) rfl ?_
          refine hl_iinc h 10 (nI (i + 1)) [(11, .int (nI (i + 1))), (7, .int 1), (12, .int (nI S)), (0, .ref bs), (1, .ref (a 0)), (2, .ref (a 25)), (3, .ref (a 26)), (4, .ref (a 27)), (5, .ref (a 28)), (6, .int lin9), (8, .int (nI c0))] dL_law_216 rfl (hl_inc i) (by decide) rfl ?_
          refine hl_goto h 131 dL_law_219 (by decide) ?_
          refine hl_lsub [3, 4, 5, 6, 7, 8, 9, 1, 10, 0] rfl ?_
          exact ih (i + 1) (by omega)
        · have hSC : S < C := Nat.not_le.mp (fun z => c2 (nI_le z (by omega)))
          refine hl_aload_n h 3 dL_law_195 rfl ?_
          refine hl_iload h 10 dL_law_196 rfl ?_
          refine hl_ildN h hl_lw_0 0 rfl (i) dL_law_198 rfl (by omega) (by decide) ?_
          refine hl_topc (nI C) k4 ?_
          refine hl_iload h 0 dL_law_199 rfl ?_
          refine hl_isub h dL_law_201 ?_
          refine hl_topc (nI (C - S)) (hp_subn (by omega)) ?_
          refine hl_goto h 206 dL_law_202 (by decide) ?_
          refine hl_icmp_ne_F h 213 dL_law_206 (by decide) rfl ?_
          refine hl_iconst h 1 dL_law_209 (by decide) ?_
          refine hl_goto h 214 dL_law_210 (by decide) ?_
          refine hl_istore h [(7, .int 1), (12, .int (nI S)), (0, .ref bs), (1, .ref (a 0)), (2, .ref (a 25)), (3, .ref (a 26)), (4, .ref (a 27)), (5, .ref (a 28)), (6, .int lin9), (8, .int (nI c0)), (11, .int (nI i))] dL_law_214 (by decide) rfl ?_
          refine hl_iinc h 10 (nI (i + 1)) [(11, .int (nI (i + 1))), (7, .int 1), (12, .int (nI S)), (0, .ref bs), (1, .ref (a 0)), (2, .ref (a 25)), (3, .ref (a 26)), (4, .ref (a 27)), (5, .ref (a 28)), (6, .int lin9), (8, .int (nI c0))] dL_law_216 rfl (hl_inc i) (by decide) rfl ?_
          refine hl_goto h 131 dL_law_219 (by decide) ?_
          refine hl_lsub [3, 4, 5, 6, 7, 8, 9, 1, 10, 0] rfl ?_
          exact ih (i + 1) (by omega)
    exact lp131 8 0 (by omega)
  refine hl_iload h 8 dL_law_69 rfl ?_
  refine hl_iload h 1 dL_law_71 rfl ?_
  refine hl_bipush h 10 dL_law_73 (by decide) ?_
  refine hl_irem h dL_law_75 (by decide) ?_
  refine hl_topc (nI (V % 10)) (pk_rem (a := V) (d := 10) (by omega) (by omega) (by omega)) ?_
  refine hl_iconst h 1 dL_law_76 (by decide) ?_
  refine hl_icmp_ne h 90 dL_law_77 (by decide) (fun c1 => ?_) (fun c1 => ?_)
  · refine hl_iconst h 0 dL_law_90 (by decide) ?_
    refine hl_iadd h dL_law_91 ?_
    exact sw _ (by rw [if_neg (fun z => c1 (by rw [z]; rfl)), Int32.add_zero])
  · refine hl_iconst h 1 dL_law_80 (by decide) ?_
    refine hl_iload h 0 dL_law_81 rfl ?_
    refine hl_bipush h 6 dL_law_83 (by decide) ?_
    refine hl_irem h dL_law_85 (by decide) ?_
    refine hl_topc (nI (W % 6)) (pk_rem (a := W) (d := 6) (by omega) (by omega) (by omega)) ?_
    refine hl_iadd h dL_law_86 ?_
    refine hl_topc (nI (1 + (W % 6))) (nI_add _ _) ?_
    refine hl_goto h 91 dL_law_87 (by decide) ?_
    refine hl_iadd h dL_law_91 ?_
    exact sw _ (by rw [if_pos ((nI_eq (b := 1) (by omega) (by omega)).mp c1)])
