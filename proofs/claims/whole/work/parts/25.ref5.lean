set_option maxHeartbeats 4000000 in
set_option maxRecDepth 100000 in
theorem c_X6_night_1 (l : Launch) (D : va_G) (cI cZ cJ : ClassId) (b : Nat → Nat) (t : Nat → Nat → Int32) (h1 : t 8 0 = 300) : hl_KI D (hl_ty cI cZ cJ) l yX6_night wsX6_night ({ frames := 1, cells := 0, slots := 0, locals := 21 } : Room) 0 0 [.ref (b 0)] (hl_WM b cI cZ t) (fun r w => r = 0 ∧ w = hl_WM b cI cZ (hl_su t 23 (fun _ => 1))) := by
  refine hl_KI_of (cc := cX6_night) (maxL := 4) .int rfl (fun _ => Or.inr rfl) (by decide) rfl (Nat.le_of_ble_eq_true rfl) ?_
  intro p e s m args below meth c A Q h hend
  have hi6 : ∀ z ∈ wsX60, z ∈ wsX6_night := by decide +kernel
  refine hl_ls (ls' := [(0, .ref (b 0))]) rfl ?_
  refine hl_aload_n h 0 dX6_night_0 rfl ?_
  refine hl_aload_n h 0 dX6_night_1 rfl ?_
  refine hl_get h hi6 hl_wm_0 rfl 8 rfl dX6_night_2 (by decide) (by decide +kernel) ?_
  refine hl_sipush h 300 dX6_night_5 (by decide) ?_
  refine hl_icmp_ne_F h 15 dX6_night_8 (by decide) h1 ?_
  refine hl_iconst h 1 dX6_night_11 (by decide) ?_
  refine hl_goto h 16 dX6_night_12 (by decide) ?_
  refine hl_callViD h (st := []) (c_X6_isFine_n l D cI cZ cJ b t 1 (by decide)) (cwV 1 h.2.2.2.2.1 gX6_night_X6_isFine rfl rfl rfl (by decide +kernel) ⟨Nat.le_of_ble_eq_true rfl, Nat.le_of_ble_eq_true rfl⟩) hl_wm_0 rfl dX6_night_16 rfl (Nat.le_of_ble_eq_true rfl) ⟨Nat.le_of_ble_eq_true rfl, Nat.le_of_ble_eq_true rfl⟩ rfl ?_
  refine hl_nmM (fun g4 e5 => ?_)
  refine hl_if_ne_F h 24 dX6_night_19 (by decide) (by decide) ?_
  refine hl_iconst h 0 dX6_night_22 (by decide) ?_
  exact hend dX6_night_23 (fun h9 => nomatch h9) (by
    subst e5
    exact ⟨by rfl, (congrArg (hl_WM b cI cZ) (by rfl))⟩)

set_option maxHeartbeats 4000000 in
set_option maxRecDepth 100000 in
theorem c_X6_night_0 (l : Launch) (D : va_G) (cI cZ cJ : ClassId) (b : Nat → Nat) (t : Nat → Nat → Int32) (N M T : Nat) (ho : hl_okM t N M T) (h1 : ¬ t 8 0 = 300) (h2 : t 6 0 = 0) : hl_KI D (hl_ty cI cZ cJ) l yX6_night wsX6_night ({ frames := 1, cells := 0, slots := 0, locals := 21 } : Room) 0 0 [.ref (b 0)] (hl_WM b cI cZ t) (fun r w => r = r_X6_night (hl_su t 23 (fun _ => 0)) N T ∧ w = hl_WM b cI cZ (f_X6_night (hl_su t 23 (fun _ => 0)) N T)) := by
  refine hl_KI_of (cc := cX6_night) (maxL := 4) .int rfl (fun _ => Or.inr rfl) (by decide) rfl (Nat.le_of_ble_eq_true rfl) ?_
  intro p e s m args below meth c A Q h hend
  have hi6 : ∀ z ∈ wsX60, z ∈ wsX6_night := by decide +kernel
  obtain ⟨hN, hc, hM, hm, hT, ht8, hbk, hpt, hbr⟩ := id ho
  refine hl_ls (ls' := [(0, .ref (b 0))]) rfl ?_
  refine hl_aload_n h 0 dX6_night_0 rfl ?_
  refine hl_aload_n h 0 dX6_night_1 rfl ?_
  refine hl_get h hi6 hl_wm_0 rfl 8 rfl dX6_night_2 (by decide) (by decide +kernel) ?_
  refine hl_sipush h 300 dX6_night_5 (by decide) ?_
  refine hl_icmp_ne_T h 15 dX6_night_8 (by decide) h1 ?_
  refine hl_iconst h 0 dX6_night_15 (by decide) ?_
  refine hl_callViD h (st := []) (c_X6_isFine_0 l D cI cZ cJ b t 0 rfl) (cwV 1 h.2.2.2.2.1 gX6_night_X6_isFine rfl rfl rfl (by decide +kernel) ⟨Nat.le_of_ble_eq_true rfl, Nat.le_of_ble_eq_true rfl⟩) hl_wm_0 rfl dX6_night_16 rfl (Nat.le_of_ble_eq_true rfl) ⟨Nat.le_of_ble_eq_true rfl, Nat.le_of_ble_eq_true rfl⟩ rfl ?_
  refine hl_nmM (fun g4 e5 => ?_)
  refine hl_if_ne_T h 24 dX6_night_19 (by decide) (by decide) ?_
  have q18 : g4 18 0 = nI N := by rw [e5, hl_su_ne _ _ (by decide)]; exact hc
  have q8 : g4 8 0 = nI T := by rw [e5, hl_su_ne _ _ (by decide)]; exact ht8
  have q13 : ∀ k, k < N → vp_in (g4 13 k) 4 := by intro k hk; rw [e5, hl_su_ne _ _ (by decide)]; exact (hbk k hk).1
  have q6 : g4 6 0 = t 6 0 := by rw [e5, hl_su_ne _ _ (by decide)]
  refine hl_iconst h 0 dX6_night_24 (by decide) ?_
  refine hl_istore_n h [(1, .int 0), (0, .ref (b 0))] dX6_night_25 (by decide) rfl ?_
  refine hl_iconst h 0 dX6_night_26 (by decide) ?_
  refine hl_istore_n h [(2, .int 0), (1, .int 0), (0, .ref (b 0))] dX6_night_27 (by decide) rfl ?_
  have lp28 : ∀ (n : Nat) (i : Nat) (z : (Nat → Nat → Int32) × Int32), (i + n = N) → (hl_it (b_X6_n1 T) i n z = hl_it (b_X6_n1 T) 0 N (g4, 0)) → (∀ k, k ≠ 11 → z.1 k = g4 k) →  hl_X p l e ({ frames := 1, cells := 0, slots := 0, locals := 21 } : Room) s m args below meth c 4 D A 0 0 Q (hl_WM b cI cZ z.1) 28 [(0, .ref (b 0)), (1, .int z.2), (2, .int (nI i))] [] := by
    intro n
    induction n with
    | zero =>
      intro i z hi hv hz
      refine hl_iload_n h 2 dX6_night_28 rfl ?_
      refine hl_aload_n h 0 dX6_night_29 rfl ?_
      refine hl_get h hi6 hl_wm_0 rfl 18 rfl dX6_night_30 (by decide) (by decide +kernel) ?_
      refine hl_icmp_ge_T h 112 dX6_night_33 (by decide) (by rw [hz 18 (by decide), q18]; exact nI_le (by omega) (by omega)) ?_
      refine hl_iconst h 0 dX6_night_112 (by decide) ?_
      refine hl_istore_n h [(2, .int 0), (0, .ref (b 0)), (1, .int z.2)] dX6_night_113 (by decide) rfl ?_
      have lp114 : ∀ (n2 : Nat) (k : Nat) (v : Nat → Nat → Int32), (k + n2 = 4) → (hl_it (b_X6_n2 T) k n2 v = hl_it (b_X6_n2 T) 0 4 z.1) → (∀ i, i ≠ 3 → i ≠ 10 → i ≠ 4 → v i = z.1 i) →  hl_X p l e ({ frames := 1, cells := 0, slots := 0, locals := 21 } : Room) s m args below meth c 4 D A 0 0 Q (hl_WM b cI cZ v) 114 [(0, .ref (b 0)), (1, .int z.2), (2, .int (nI k))] [] := by
        intro n2
        induction n2 with
        | zero =>
          intro k v hk hv2 hq
          refine hl_iload_n h 2 dX6_night_114 rfl ?_
          refine hl_iconst h 4 dX6_night_115 (by decide) ?_
          refine hl_icmp_ge_T h 206 dX6_night_116 (by decide) (by rw [show k = 4 by omega]; decide) ?_
          refine hl_iconst h 0 dX6_night_206 (by decide) ?_
          refine hl_istore_n h [(2, .int 0), (0, .ref (b 0)), (1, .int z.2)] dX6_night_207 (by decide) rfl ?_
          have lp208 : ∀ (n4 : Nat) (k4 : Nat) (u : Nat → Nat → Int32), (k4 + n4 = 8) → (hl_it b_X6_n4 k4 n4 u = hl_it b_X6_n4 0 8 v) →  hl_X p l e ({ frames := 1, cells := 0, slots := 0, locals := 21 } : Room) s m args below meth c 4 D A 0 0 Q (hl_WM b cI cZ u) 208 [(0, .ref (b 0)), (1, .int z.2), (2, .int (nI k4))] [] := by
            intro n4
            induction n4 with
            | zero =>
              intro k4 u hk4 hv4
              refine hl_iload_n h 2 dX6_night_208 rfl ?_
              refine hl_bipush h 8 dX6_night_209 (by decide) ?_
              refine hl_icmp_ge_T h 227 dX6_night_211 (by decide) (by rw [show k4 = 8 by omega]; decide) ?_
              refine hl_aload_n h 0 dX6_night_227 rfl ?_
              refine hl_iconst h 0 dX6_night_228 (by decide) ?_
              refine hl_put h hi6 tyX6_ok nmX6 hl_wm_0 rfl 7 dX6_night_229 (by decide) (by decide +kernel) (by decide) rfl rfl (Nat.le_of_ble_eq_true rfl) hl_wm_s7 ?_
              refine hl_nmM (fun g6 e7 => ?_)
              refine hl_aload_n h 0 dX6_night_232 rfl ?_
              refine hl_dup h dX6_night_233 rfl ?_
              refine hl_get h hi6 hl_wm_0 rfl 8 rfl dX6_night_234 (by decide) (by decide +kernel) ?_
              refine hl_iconst h 1 dX6_night_237 (by decide) ?_
              refine hl_iadd h dX6_night_238 ?_
              refine hl_put h hi6 tyX6_ok nmX6 hl_wm_0 rfl 8 dX6_night_239 (by decide) (by decide +kernel) (by decide) rfl rfl (Nat.le_of_ble_eq_true rfl) hl_wm_s8 ?_
              refine hl_nmM (fun g8 e9 => ?_)
              refine hl_iload_n h 1 dX6_night_242 rfl ?_
              exact hend dX6_night_243 (fun h9 => nomatch h9) (by
                have q1 : z = hl_it (b_X6_n1 T) 0 N ((hl_su t 23 (fun _ => 0)), 0) := by rw [show z = _ from hv, e5]
                have q2 : v = hl_it (b_X6_n2 T) 0 4 z.1 := hv2
                have q3 : u = hl_it b_X6_n4 0 8 v := hv4
                refine ⟨by rw [q1]; rfl, congrArg (hl_WM b cI cZ) ?_⟩
                rw [e9, e7, q3, q2, q1]; rfl)
            | succ n4 ih4 =>
              intro k4 u hk4 hv4
              refine hl_iload_n h 2 dX6_night_208 rfl ?_
              refine hl_bipush h 8 dX6_night_209 (by decide) ?_
              refine hl_icmp_ge_F h 227 dX6_night_211 (by decide) (nI_ge (b := 8) (by omega) (by decide)) ?_
              refine hl_aload_n h 0 dX6_night_214 rfl ?_
              refine hl_get h hi6 hl_wm_0 rfl 2 rfl dX6_night_215 (by decide) (by decide +kernel) ?_
              refine hl_iload_n h 2 dX6_night_218 rfl ?_
              refine hl_iconst h 0 dX6_night_219 (by decide) ?_
              refine hl_istN h hl_wm_3 0 rfl k4 dX6_night_220 rfl (by omega) (by decide) hl_wm_t2 ?_
              refine hl_nmM (fun g10 e11 => ?_)
              refine hl_iinc h 2 (nI (k4 + 1)) [(2, .int (nI (k4 + 1))), (0, .ref (b 0)), (1, .int z.2)] dX6_night_221 rfl (hl_inc k4) (by decide) rfl ?_
              refine hl_goto h 208 dX6_night_224 (by decide) ?_
              refine hl_lsub [1, 2, 0] rfl ?_
              subst e11
              exact ih4 (k4 + 1) (b_X6_n4 k4 u) (by omega) (by rw [← hv4, hl_it_s])
          refine hl_lsub [1, 2, 0] rfl ?_
          exact lp208 8 0 v rfl rfl
        | succ n2 ih2 =>
          intro k v hk hv2 hq
          refine hl_iload_n h 2 dX6_night_114 rfl ?_
          refine hl_iconst h 4 dX6_night_115 (by decide) ?_
          refine hl_icmp_ge_F h 206 dX6_night_116 (by decide) (nI_ge (b := 4) (by omega) (by decide)) ?_
          refine hl_aload_n h 0 dX6_night_119 rfl ?_
          refine hl_get h hi6 hl_wm_0 rfl 10 rfl dX6_night_120 (by decide) (by decide +kernel) ?_
          refine hl_iconst h 4 dX6_night_123 (by decide) ?_
          refine hl_aload_n h 0 dX6_night_124 rfl ?_
          refine hl_get h hi6 hl_wm_0 rfl 8 rfl dX6_night_125 (by decide) (by decide +kernel) ?_
          refine hl_imul h dX6_night_128 ?_
          refine hl_iload_n h 2 dX6_night_129 rfl ?_
          refine hl_iadd h dX6_night_130 ?_
          refine hl_topc (nI (4 * T + k)) (by rw [hq 8 (by decide) (by decide) (by decide), hz 8 (by decide), q8]; exact hl_4i T k) ?_
          refine hl_aload_n h 0 dX6_night_131 rfl ?_
          refine hl_get h hi6 hl_wm_0 rfl 4 rfl dX6_night_132 (by decide) (by decide +kernel) ?_
          refine hl_iload_n h 2 dX6_night_135 rfl ?_
          refine hl_ildN h hl_wm_5 0 rfl k dX6_night_136 rfl (by omega) (by decide) ?_
          refine hl_istN h hl_wm_8 0 rfl (4 * T + k) dX6_night_137 rfl (by omega) (by decide) hl_wm_t10 ?_
          refine hl_nmM (fun g12 e13 => ?_)
          refine hl_aload_n h 0 dX6_night_138 rfl ?_
          refine hl_get h hi6 hl_wm_0 rfl 4 rfl dX6_night_139 (by decide) (by decide +kernel) ?_
          refine hl_iload_n h 2 dX6_night_142 rfl ?_
          refine hl_iconst h 0 dX6_night_143 (by decide) ?_
          refine hl_istN h hl_wm_5 0 rfl k dX6_night_144 rfl (by omega) (by decide) hl_wm_t4 ?_
          refine hl_nmM (fun g14 e15 => ?_)
          have q8b : g14 8 0 = nI T := by rw [e15, hl_su_ne _ _ (by decide), e13, hl_su_ne _ _ (by decide), hq 8 (by decide) (by decide) (by decide), hz 8 (by decide)]; exact q8
          have q6b : g14 6 0 = 0 := by rw [e15, hl_su_ne _ _ (by decide), e13, hl_su_ne _ _ (by decide), hq 6 (by decide) (by decide) (by decide), hz 6 (by decide), q6]; exact h2
          refine hl_iconst h 0 dX6_night_145 (by decide) ?_
          refine hl_istore_n h [(3, .int 0), (0, .ref (b 0)), (1, .int z.2), (2, .int (nI k))] dX6_night_146 (by decide) rfl ?_
          have lp147 : ∀ (n3 : Nat) (j : Nat) (y : Nat → Nat → Int32), (j + n3 = T - 1) → (hl_it (b_X6_n3 k) j n3 y = hl_it (b_X6_n3 k) 0 (T - 1) g14) → (∀ i, i ≠ 3 → i ≠ 10 → y i = g14 i) →  hl_X p l e ({ frames := 1, cells := 0, slots := 0, locals := 21 } : Room) s m args below meth c 4 D A 0 0 Q (hl_WM b cI cZ y) 147 [(0, .ref (b 0)), (1, .int z.2), (2, .int (nI k)), (3, .int (nI j))] [] := by
            intro n3
            induction n3 with
            | zero =>
              intro j y hj hw hr
              refine hl_iload_n h 3 dX6_night_147 rfl ?_
              refine hl_aload_n h 0 dX6_night_148 rfl ?_
              refine hl_get h hi6 hl_wm_0 rfl 8 rfl dX6_night_149 (by decide) (by decide +kernel) ?_
              refine hl_iconst h 2 dX6_night_152 (by decide) ?_
              refine hl_isub h dX6_night_153 ?_
              refine hl_icmp_gt_T h 200 dX6_night_154 (by decide) (by rw [hr 8 (by decide) (by decide), q8b]; exact (hl_m2 hT (by omega)).mpr (by omega)) ?_
              refine hl_iinc h 2 (nI (k + 1)) [(2, .int (nI (k + 1))), (0, .ref (b 0)), (1, .int z.2), (3, .int (nI j))] dX6_night_200 rfl (hl_inc k) (by decide) rfl ?_
              refine hl_goto h 114 dX6_night_203 (by decide) ?_
              refine hl_lsub [1, 2, 0] rfl ?_
              have hy : y = b_X6_n2 T k v := by rw [show y = _ from hw]; subst e15; subst e13; simp only [b_X6_n2]; rw [if_pos q6b]
              refine hl_wd (congrArg (hl_WM b cI cZ) hy) ?_
              exact ih2 (k + 1) (b_X6_n2 T k v) (by omega) (by rw [← hv2, hl_it_s]) (by intro i h91 h92 h93; rw [fr_X6_n2 T k v h91 h92 h93]; exact hq i h91 h92 h93)
            | succ n3 ih3 =>
              intro j y hj hw hr
              refine hl_iload_n h 3 dX6_night_147 rfl ?_
              refine hl_aload_n h 0 dX6_night_148 rfl ?_
              refine hl_get h hi6 hl_wm_0 rfl 8 rfl dX6_night_149 (by decide) (by decide +kernel) ?_
              refine hl_iconst h 2 dX6_night_152 (by decide) ?_
              refine hl_isub h dX6_night_153 ?_
              refine hl_icmp_gt_F h 200 dX6_night_154 (by decide) (by rw [hr 8 (by decide) (by decide), q8b]; exact fun z9 => absurd ((hl_m2 hT (by omega)).mp z9) (by omega)) ?_
              refine hl_aload_n h 0 dX6_night_157 rfl ?_
              refine hl_get h hi6 hl_wm_0 rfl 6 rfl dX6_night_158 (by decide) (by decide +kernel) ?_
              refine hl_if_ne_F h 200 dX6_night_161 (by decide) (by rw [hr 6 (by decide) (by decide)]; exact q6b) ?_
              refine hl_aload_n h 0 dX6_night_164 rfl ?_
              refine hl_get h hi6 hl_wm_0 rfl 3 rfl dX6_night_165 (by decide) (by decide +kernel) ?_
              refine hl_iload_n h 2 dX6_night_168 rfl ?_
              refine hl_dup2 h dX6_night_169 rfl rfl ?_
              refine hl_ildN h hl_wm_4 0 rfl k dX6_night_170 rfl (by omega) (by decide) ?_
              refine hl_aload_n h 0 dX6_night_171 rfl ?_
              refine hl_get h hi6 hl_wm_0 rfl 10 rfl dX6_night_172 (by decide) (by decide +kernel) ?_
              refine hl_iconst h 4 dX6_night_175 (by decide) ?_
              refine hl_iload_n h 3 dX6_night_176 rfl ?_
              refine hl_imul h dX6_night_177 ?_
              refine hl_iload_n h 2 dX6_night_178 rfl ?_
              refine hl_iadd h dX6_night_179 ?_
              refine hl_topc (nI (4 * j + k)) (hl_4i j k) ?_
              refine hl_ildN h hl_wm_8 0 rfl (4 * j + k) dX6_night_180 rfl (by omega) (by decide) ?_
              refine hl_iadd h dX6_night_181 ?_
              refine hl_istN h hl_wm_4 0 rfl k dX6_night_182 rfl (by omega) (by decide) hl_wm_t3 ?_
              refine hl_nmM (fun g16 e17 => ?_)
              refine hl_aload_n h 0 dX6_night_183 rfl ?_
              refine hl_get h hi6 hl_wm_0 rfl 10 rfl dX6_night_184 (by decide) (by decide +kernel) ?_
              refine hl_iconst h 4 dX6_night_187 (by decide) ?_
              refine hl_iload_n h 3 dX6_night_188 rfl ?_
              refine hl_imul h dX6_night_189 ?_
              refine hl_iload_n h 2 dX6_night_190 rfl ?_
              refine hl_iadd h dX6_night_191 ?_
              refine hl_topc (nI (4 * j + k)) (hl_4i j k) ?_
              refine hl_iconst h 0 dX6_night_192 (by decide) ?_
              refine hl_istN h hl_wm_8 0 rfl (4 * j + k) dX6_night_193 rfl (by omega) (by decide) hl_wm_t10 ?_
              refine hl_nmM (fun g18 e19 => ?_)
              refine hl_iinc h 3 (nI (j + 1)) [(3, .int (nI (j + 1))), (0, .ref (b 0)), (1, .int z.2), (2, .int (nI k))] dX6_night_194 rfl (hl_inc j) (by decide) rfl ?_
              refine hl_goto h 147 dX6_night_197 (by decide) ?_
              refine hl_lsub [1, 2, 3, 0] rfl ?_
              subst e19; subst e17
              exact ih3 (j + 1) (b_X6_n3 k j y) (by omega) (by rw [← hw, hl_it_s]) (by intro i h91 h92; rw [fr_X6_n3 k j y h91 h92]; exact hr i h91 h92)
          refine hl_lsub [1, 2, 3, 0] rfl ?_
          exact lp147 (T - 1) 0 g14 (Nat.zero_add _) rfl (fun _ _ _ => rfl)
      refine hl_lsub [1, 2, 0] rfl ?_
      exact lp114 4 0 z.1 rfl rfl (fun _ _ _ _ => rfl)
    | succ n ih =>
      intro i z hi hv hz
      have hx4 : (z.1 13 i).toNatClampNeg < 4 := hl_idx (by rw [hz 13 (by decide)]; exact q13 i (by omega))
      refine hl_iload_n h 2 dX6_night_28 rfl ?_
      refine hl_aload_n h 0 dX6_night_29 rfl ?_
      refine hl_get h hi6 hl_wm_0 rfl 18 rfl dX6_night_30 (by decide) (by decide +kernel) ?_
      refine hl_icmp_ge_F h 112 dX6_night_33 (by decide) (by rw [hz 18 (by decide), q18]; exact nI_ge (by omega) (by omega)) ?_
      refine hl_aload_n h 0 dX6_night_36 rfl ?_
      refine hl_get h hi6 hl_wm_0 rfl 15 rfl dX6_night_37 (by decide) (by decide +kernel) ?_
      refine hl_iload_n h 2 dX6_night_40 rfl ?_
      refine hl_ildN h hl_wm_13 0 rfl i dX6_night_41 rfl (by omega) (by decide) ?_
      refine hl_aload_n h 0 dX6_night_42 rfl ?_
      refine hl_get h hi6 hl_wm_0 rfl 8 rfl dX6_night_43 (by decide) (by decide +kernel) ?_
      refine hl_icmp_ne h 62 dX6_night_46 (by decide) (fun c20 => ?_) (fun c20 => ?_)
      · refine hl_iconst h 0 dX6_night_62 (by decide) ?_
        refine hl_istore_n h [(3, .int 0), (0, .ref (b 0)), (1, .int z.2), (2, .int (nI i))] dX6_night_63 (by decide) rfl ?_
        refine hl_aload_n h 1 dX6_night_64 rfl ?_
        refine hl_get h hi6 hl_wm_0 rfl 11 rfl dX6_night_65 (by decide) (by decide +kernel) ?_
        refine hl_iconst h 4 dX6_night_68 (by decide) ?_
        refine hl_aload_n h 1 dX6_night_69 rfl ?_
        refine hl_get h hi6 hl_wm_0 rfl 8 rfl dX6_night_70 (by decide) (by decide +kernel) ?_
        refine hl_imul h dX6_night_73 ?_
        refine hl_aload_n h 1 dX6_night_74 rfl ?_
        refine hl_get h hi6 hl_wm_0 rfl 13 rfl dX6_night_75 (by decide) (by decide +kernel) ?_
        refine hl_iload_n h 3 dX6_night_78 rfl ?_
        refine hl_ildN h hl_wm_11 0 rfl i dX6_night_79 rfl (by omega) (by decide) ?_
        refine hl_iadd h dX6_night_80 ?_
        refine hl_topc (nI (4 * T + (z.1 13 i).toNatClampNeg)) (by rw [hz 8 (by decide), q8]; exact hl_4x (by rw [hz 13 (by decide)]; exact q13 i (by omega)) T) ?_
        refine hl_dup2 h dX6_night_81 rfl rfl ?_
        refine hl_ildN h hl_wm_9 0 rfl (4 * T + (z.1 13 i).toNatClampNeg) dX6_night_82 rfl (by omega) (by decide) ?_
        refine hl_iload_n h 0 dX6_night_83 rfl ?_
        refine hl_if_eq_T h 91 dX6_night_84 (by decide) (by decide) ?_
        refine hl_iconst h 0 dX6_night_91 (by decide) ?_
        refine hl_iadd h dX6_night_92 ?_
        refine hl_istN h hl_wm_9 0 rfl (4 * T + (z.1 13 i).toNatClampNeg) dX6_night_93 rfl (by omega) (by decide) hl_wm_t11 ?_
        refine hl_nmM (fun g21 e22 => ?_)
        refine hl_iload_n h 2 dX6_night_94 rfl ?_
        refine hl_iload_n h 0 dX6_night_95 rfl ?_
        refine hl_if_eq_T h 103 dX6_night_96 (by decide) (by decide) ?_
        refine hl_iconst h 0 dX6_night_103 (by decide) ?_
        refine hl_iadd h dX6_night_104 ?_
        refine hl_istore_n h [(1, .int (z.2 + 0)), (3, .int 0), (0, .ref (b 0)), (2, .int (nI i))] dX6_night_105 (by decide) rfl ?_
        refine hl_iinc h 3 (nI (i + 1)) [(2, .int (nI (i + 1))), (1, .int (z.2 + 0)), (3, .int 0), (0, .ref (b 0))] dX6_night_106 rfl (hl_inc i) (by decide) rfl ?_
        refine hl_goto h 28 dX6_night_109 (by decide) ?_
        refine hl_lsub [3, 1, 0] rfl ?_
        exact ih (i + 1) (g21, (z.2 + 0)) (by omega) (by rw [← hv, hl_it_s, show b_X6_n1 T i z = (g21, (z.2 + 0)) from (by subst e22; simp only [b_X6_n1]; rw [if_neg (fun q => c20 q.1)])]) (by intro k hk; show g21 k = _; rw [e22, hl_su_ne _ _ hk]; exact hz k hk)
      · refine hl_aload_n h 0 dX6_night_49 rfl ?_
        refine hl_get h hi6 hl_wm_0 rfl 16 rfl dX6_night_50 (by decide) (by decide +kernel) ?_
        refine hl_iload_n h 2 dX6_night_53 rfl ?_
        refine hl_zldN h hl_wm_14 1 rfl i dX6_night_54 rfl (by omega) (by decide) ?_
        refine hl_if_ne h 62 dX6_night_55 (by decide) (fun c23 => ?_) (fun c23 => ?_)
        · refine hl_iconst h 0 dX6_night_62 (by decide) ?_
          refine hl_istore_n h [(3, .int 0), (0, .ref (b 0)), (1, .int z.2), (2, .int (nI i))] dX6_night_63 (by decide) rfl ?_
          refine hl_aload_n h 1 dX6_night_64 rfl ?_
          refine hl_get h hi6 hl_wm_0 rfl 11 rfl dX6_night_65 (by decide) (by decide +kernel) ?_
          refine hl_iconst h 4 dX6_night_68 (by decide) ?_
          refine hl_aload_n h 1 dX6_night_69 rfl ?_
          refine hl_get h hi6 hl_wm_0 rfl 8 rfl dX6_night_70 (by decide) (by decide +kernel) ?_
          refine hl_imul h dX6_night_73 ?_
          refine hl_aload_n h 1 dX6_night_74 rfl ?_
          refine hl_get h hi6 hl_wm_0 rfl 13 rfl dX6_night_75 (by decide) (by decide +kernel) ?_
          refine hl_iload_n h 3 dX6_night_78 rfl ?_
          refine hl_ildN h hl_wm_11 0 rfl i dX6_night_79 rfl (by omega) (by decide) ?_
          refine hl_iadd h dX6_night_80 ?_
          refine hl_topc (nI (4 * T + (z.1 13 i).toNatClampNeg)) (by rw [hz 8 (by decide), q8]; exact hl_4x (by rw [hz 13 (by decide)]; exact q13 i (by omega)) T) ?_
          refine hl_dup2 h dX6_night_81 rfl rfl ?_
          refine hl_ildN h hl_wm_9 0 rfl (4 * T + (z.1 13 i).toNatClampNeg) dX6_night_82 rfl (by omega) (by decide) ?_
          refine hl_iload_n h 0 dX6_night_83 rfl ?_
          refine hl_if_eq_T h 91 dX6_night_84 (by decide) (by decide) ?_
          refine hl_iconst h 0 dX6_night_91 (by decide) ?_
          refine hl_iadd h dX6_night_92 ?_
          refine hl_istN h hl_wm_9 0 rfl (4 * T + (z.1 13 i).toNatClampNeg) dX6_night_93 rfl (by omega) (by decide) hl_wm_t11 ?_
          refine hl_nmM (fun g24 e25 => ?_)
          refine hl_iload_n h 2 dX6_night_94 rfl ?_
          refine hl_iload_n h 0 dX6_night_95 rfl ?_
          refine hl_if_eq_T h 103 dX6_night_96 (by decide) (by decide) ?_
          refine hl_iconst h 0 dX6_night_103 (by decide) ?_
          refine hl_iadd h dX6_night_104 ?_
          refine hl_istore_n h [(1, .int (z.2 + 0)), (3, .int 0), (0, .ref (b 0)), (2, .int (nI i))] dX6_night_105 (by decide) rfl ?_
          refine hl_iinc h 3 (nI (i + 1)) [(2, .int (nI (i + 1))), (1, .int (z.2 + 0)), (3, .int 0), (0, .ref (b 0))] dX6_night_106 rfl (hl_inc i) (by decide) rfl ?_
          refine hl_goto h 28 dX6_night_109 (by decide) ?_
          refine hl_lsub [3, 1, 0] rfl ?_
          exact ih (i + 1) (g24, (z.2 + 0)) (by omega) (by rw [← hv, hl_it_s, show b_X6_n1 T i z = (g24, (z.2 + 0)) from (by subst e25; simp only [b_X6_n1]; rw [if_neg (fun q => c23 q.2)])]) (by intro k hk; show g24 k = _; rw [e25, hl_su_ne _ _ hk]; exact hz k hk)
        · refine hl_iconst h 1 dX6_night_58 (by decide) ?_
          refine hl_goto h 63 dX6_night_59 (by decide) ?_
          refine hl_istore_n h [(3, .int 1), (0, .ref (b 0)), (1, .int z.2), (2, .int (nI i))] dX6_night_63 (by decide) rfl ?_
          refine hl_aload_n h 1 dX6_night_64 rfl ?_
          refine hl_get h hi6 hl_wm_0 rfl 11 rfl dX6_night_65 (by decide) (by decide +kernel) ?_
          refine hl_iconst h 4 dX6_night_68 (by decide) ?_
          refine hl_aload_n h 1 dX6_night_69 rfl ?_
          refine hl_get h hi6 hl_wm_0 rfl 8 rfl dX6_night_70 (by decide) (by decide +kernel) ?_
          refine hl_imul h dX6_night_73 ?_
          refine hl_aload_n h 1 dX6_night_74 rfl ?_
          refine hl_get h hi6 hl_wm_0 rfl 13 rfl dX6_night_75 (by decide) (by decide +kernel) ?_
          refine hl_iload_n h 3 dX6_night_78 rfl ?_
          refine hl_ildN h hl_wm_11 0 rfl i dX6_night_79 rfl (by omega) (by decide) ?_
          refine hl_iadd h dX6_night_80 ?_
          refine hl_topc (nI (4 * T + (z.1 13 i).toNatClampNeg)) (by rw [hz 8 (by decide), q8]; exact hl_4x (by rw [hz 13 (by decide)]; exact q13 i (by omega)) T) ?_
          refine hl_dup2 h dX6_night_81 rfl rfl ?_
          refine hl_ildN h hl_wm_9 0 rfl (4 * T + (z.1 13 i).toNatClampNeg) dX6_night_82 rfl (by omega) (by decide) ?_
          refine hl_iload_n h 0 dX6_night_83 rfl ?_
          refine hl_if_eq_F h 91 dX6_night_84 (by decide) (by decide) ?_
          refine hl_iconst h 1 dX6_night_87 (by decide) ?_
          refine hl_goto h 92 dX6_night_88 (by decide) ?_
          refine hl_iadd h dX6_night_92 ?_
          refine hl_istN h hl_wm_9 0 rfl (4 * T + (z.1 13 i).toNatClampNeg) dX6_night_93 rfl (by omega) (by decide) hl_wm_t11 ?_
          refine hl_nmM (fun g26 e27 => ?_)
          refine hl_iload_n h 2 dX6_night_94 rfl ?_
          refine hl_iload_n h 0 dX6_night_95 rfl ?_
          refine hl_if_eq_F h 103 dX6_night_96 (by decide) (by decide) ?_
          refine hl_iconst h 1 dX6_night_99 (by decide) ?_
          refine hl_goto h 104 dX6_night_100 (by decide) ?_
          refine hl_iadd h dX6_night_104 ?_
          refine hl_istore_n h [(1, .int (z.2 + 1)), (3, .int 1), (0, .ref (b 0)), (2, .int (nI i))] dX6_night_105 (by decide) rfl ?_
          refine hl_iinc h 3 (nI (i + 1)) [(2, .int (nI (i + 1))), (1, .int (z.2 + 1)), (3, .int 1), (0, .ref (b 0))] dX6_night_106 rfl (hl_inc i) (by decide) rfl ?_
          refine hl_goto h 28 dX6_night_109 (by decide) ?_
          refine hl_lsub [3, 1, 0] rfl ?_
          exact ih (i + 1) (g26, (z.2 + 1)) (by omega) (by rw [← hv, hl_it_s, show b_X6_n1 T i z = (g26, (z.2 + 1)) from (by subst e27; simp only [b_X6_n1]; rw [if_pos ⟨c20, c23⟩])]) (by intro k hk; show g26 k = _; rw [e27, hl_su_ne _ _ hk]; exact hz k hk)
  refine hl_lsub [2, 1, 0] rfl ?_
  exact lp28 N 0 (g4, 0) (Nat.zero_add N) rfl (fun _ _ => rfl)

set_option maxHeartbeats 4000000 in
set_option maxRecDepth 100000 in
theorem c_X6_night_b (l : Launch) (D : va_G) (cI cZ cJ : ClassId) (b : Nat → Nat) (t : Nat → Nat → Int32) (N M T : Nat) (ho : hl_okM t N M T) (h1 : ¬ t 8 0 = 300) (h2 : ¬ t 6 0 = 0) : hl_KI D (hl_ty cI cZ cJ) l yX6_night wsX6_night ({ frames := 1, cells := 0, slots := 0, locals := 21 } : Room) 0 0 [.ref (b 0)] (hl_WM b cI cZ t) (fun r w => r = r_X6_night (hl_su t 23 (fun _ => 0)) N T ∧ w = hl_WM b cI cZ (f_X6_night (hl_su t 23 (fun _ => 0)) N T)) := by
  refine hl_KI_of (cc := cX6_night) (maxL := 4) .int rfl (fun _ => Or.inr rfl) (by decide) rfl (Nat.le_of_ble_eq_true rfl) ?_
  intro p e s m args below meth c A Q h hend
  have hi6 : ∀ z ∈ wsX60, z ∈ wsX6_night := by decide +kernel
  obtain ⟨hN, hc, hM, hm, hT, ht8, hbk, hpt, hbr⟩ := id ho
  refine hl_ls (ls' := [(0, .ref (b 0))]) rfl ?_
  refine hl_aload_n h 0 dX6_night_0 rfl ?_
  refine hl_aload_n h 0 dX6_night_1 rfl ?_
  refine hl_get h hi6 hl_wm_0 rfl 8 rfl dX6_night_2 (by decide) (by decide +kernel) ?_
  refine hl_sipush h 300 dX6_night_5 (by decide) ?_
  refine hl_icmp_ne_T h 15 dX6_night_8 (by decide) h1 ?_
  refine hl_iconst h 0 dX6_night_15 (by decide) ?_
  refine hl_callViD h (st := []) (c_X6_isFine_0 l D cI cZ cJ b t 0 rfl) (cwV 1 h.2.2.2.2.1 gX6_night_X6_isFine rfl rfl rfl (by decide +kernel) ⟨Nat.le_of_ble_eq_true rfl, Nat.le_of_ble_eq_true rfl⟩) hl_wm_0 rfl dX6_night_16 rfl (Nat.le_of_ble_eq_true rfl) ⟨Nat.le_of_ble_eq_true rfl, Nat.le_of_ble_eq_true rfl⟩ rfl ?_
  refine hl_nmM (fun g4 e5 => ?_)
  refine hl_if_ne_T h 24 dX6_night_19 (by decide) (by decide) ?_
  have q18 : g4 18 0 = nI N := by rw [e5, hl_su_ne _ _ (by decide)]; exact hc
  have q8 : g4 8 0 = nI T := by rw [e5, hl_su_ne _ _ (by decide)]; exact ht8
  have q13 : ∀ k, k < N → vp_in (g4 13 k) 4 := by intro k hk; rw [e5, hl_su_ne _ _ (by decide)]; exact (hbk k hk).1
  have q6 : g4 6 0 = t 6 0 := by rw [e5, hl_su_ne _ _ (by decide)]
  refine hl_iconst h 0 dX6_night_24 (by decide) ?_
  refine hl_istore_n h [(1, .int 0), (0, .ref (b 0))] dX6_night_25 (by decide) rfl ?_
  refine hl_iconst h 0 dX6_night_26 (by decide) ?_
  refine hl_istore_n h [(2, .int 0), (1, .int 0), (0, .ref (b 0))] dX6_night_27 (by decide) rfl ?_
  have lp28 : ∀ (n : Nat) (i : Nat) (z : (Nat → Nat → Int32) × Int32), (i + n = N) → (hl_it (b_X6_n1 T) i n z = hl_it (b_X6_n1 T) 0 N (g4, 0)) → (∀ k, k ≠ 11 → z.1 k = g4 k) →  hl_X p l e ({ frames := 1, cells := 0, slots := 0, locals := 21 } : Room) s m args below meth c 4 D A 0 0 Q (hl_WM b cI cZ z.1) 28 [(0, .ref (b 0)), (1, .int z.2), (2, .int (nI i))] [] := by
    intro n
    induction n with
    | zero =>
      intro i z hi hv hz
      refine hl_iload_n h 2 dX6_night_28 rfl ?_
      refine hl_aload_n h 0 dX6_night_29 rfl ?_
      refine hl_get h hi6 hl_wm_0 rfl 18 rfl dX6_night_30 (by decide) (by decide +kernel) ?_
      refine hl_icmp_ge_T h 112 dX6_night_33 (by decide) (by rw [hz 18 (by decide), q18]; exact nI_le (by omega) (by omega)) ?_
      refine hl_iconst h 0 dX6_night_112 (by decide) ?_
      refine hl_istore_n h [(2, .int 0), (0, .ref (b 0)), (1, .int z.2)] dX6_night_113 (by decide) rfl ?_
      have lp114 : ∀ (n2 : Nat) (k : Nat) (v : Nat → Nat → Int32), (k + n2 = 4) → (hl_it (b_X6_n2 T) k n2 v = hl_it (b_X6_n2 T) 0 4 z.1) → (∀ i, i ≠ 3 → i ≠ 10 → i ≠ 4 → v i = z.1 i) →  hl_X p l e ({ frames := 1, cells := 0, slots := 0, locals := 21 } : Room) s m args below meth c 4 D A 0 0 Q (hl_WM b cI cZ v) 114 [(0, .ref (b 0)), (1, .int z.2), (2, .int (nI k))] [] := by
        intro n2
        induction n2 with
        | zero =>
          intro k v hk hv2 hq
          refine hl_iload_n h 2 dX6_night_114 rfl ?_
          refine hl_iconst h 4 dX6_night_115 (by decide) ?_
          refine hl_icmp_ge_T h 206 dX6_night_116 (by decide) (by rw [show k = 4 by omega]; decide) ?_
          refine hl_iconst h 0 dX6_night_206 (by decide) ?_
          refine hl_istore_n h [(2, .int 0), (0, .ref (b 0)), (1, .int z.2)] dX6_night_207 (by decide) rfl ?_
          have lp208 : ∀ (n4 : Nat) (k4 : Nat) (u : Nat → Nat → Int32), (k4 + n4 = 8) → (hl_it b_X6_n4 k4 n4 u = hl_it b_X6_n4 0 8 v) →  hl_X p l e ({ frames := 1, cells := 0, slots := 0, locals := 21 } : Room) s m args below meth c 4 D A 0 0 Q (hl_WM b cI cZ u) 208 [(0, .ref (b 0)), (1, .int z.2), (2, .int (nI k4))] [] := by
            intro n4
            induction n4 with
            | zero =>
              intro k4 u hk4 hv4
              refine hl_iload_n h 2 dX6_night_208 rfl ?_
              refine hl_bipush h 8 dX6_night_209 (by decide) ?_
              refine hl_icmp_ge_T h 227 dX6_night_211 (by decide) (by rw [show k4 = 8 by omega]; decide) ?_
              refine hl_aload_n h 0 dX6_night_227 rfl ?_
              refine hl_iconst h 0 dX6_night_228 (by decide) ?_
              refine hl_put h hi6 tyX6_ok nmX6 hl_wm_0 rfl 7 dX6_night_229 (by decide) (by decide +kernel) (by decide) rfl rfl (Nat.le_of_ble_eq_true rfl) hl_wm_s7 ?_
              refine hl_nmM (fun g6 e7 => ?_)
              refine hl_aload_n h 0 dX6_night_232 rfl ?_
              refine hl_dup h dX6_night_233 rfl ?_
              refine hl_get h hi6 hl_wm_0 rfl 8 rfl dX6_night_234 (by decide) (by decide +kernel) ?_
              refine hl_iconst h 1 dX6_night_237 (by decide) ?_
              refine hl_iadd h dX6_night_238 ?_
              refine hl_put h hi6 tyX6_ok nmX6 hl_wm_0 rfl 8 dX6_night_239 (by decide) (by decide +kernel) (by decide) rfl rfl (Nat.le_of_ble_eq_true rfl) hl_wm_s8 ?_
              refine hl_nmM (fun g8 e9 => ?_)
              refine hl_iload_n h 1 dX6_night_242 rfl ?_
              exact hend dX6_night_243 (fun h9 => nomatch h9) (by
                have q1 : z = hl_it (b_X6_n1 T) 0 N ((hl_su t 23 (fun _ => 0)), 0) := by rw [show z = _ from hv, e5]
                have q2 : v = hl_it (b_X6_n2 T) 0 4 z.1 := hv2
                have q3 : u = hl_it b_X6_n4 0 8 v := hv4
                refine ⟨by rw [q1]; rfl, congrArg (hl_WM b cI cZ) ?_⟩
                rw [e9, e7, q3, q2, q1]; rfl)
            | succ n4 ih4 =>
              intro k4 u hk4 hv4
              refine hl_iload_n h 2 dX6_night_208 rfl ?_
              refine hl_bipush h 8 dX6_night_209 (by decide) ?_
              refine hl_icmp_ge_F h 227 dX6_night_211 (by decide) (nI_ge (b := 8) (by omega) (by decide)) ?_
              refine hl_aload_n h 0 dX6_night_214 rfl ?_
              refine hl_get h hi6 hl_wm_0 rfl 2 rfl dX6_night_215 (by decide) (by decide +kernel) ?_
              refine hl_iload_n h 2 dX6_night_218 rfl ?_
              refine hl_iconst h 0 dX6_night_219 (by decide) ?_
              refine hl_istN h hl_wm_3 0 rfl k4 dX6_night_220 rfl (by omega) (by decide) hl_wm_t2 ?_
              refine hl_nmM (fun g10 e11 => ?_)
              refine hl_iinc h 2 (nI (k4 + 1)) [(2, .int (nI (k4 + 1))), (0, .ref (b 0)), (1, .int z.2)] dX6_night_221 rfl (hl_inc k4) (by decide) rfl ?_
              refine hl_goto h 208 dX6_night_224 (by decide) ?_
              refine hl_lsub [1, 2, 0] rfl ?_
              subst e11
              exact ih4 (k4 + 1) (b_X6_n4 k4 u) (by omega) (by rw [← hv4, hl_it_s])
          refine hl_lsub [1, 2, 0] rfl ?_
          exact lp208 8 0 v rfl rfl
        | succ n2 ih2 =>
          intro k v hk hv2 hq
          refine hl_iload_n h 2 dX6_night_114 rfl ?_
          refine hl_iconst h 4 dX6_night_115 (by decide) ?_
          refine hl_icmp_ge_F h 206 dX6_night_116 (by decide) (nI_ge (b := 4) (by omega) (by decide)) ?_
          refine hl_aload_n h 0 dX6_night_119 rfl ?_
          refine hl_get h hi6 hl_wm_0 rfl 10 rfl dX6_night_120 (by decide) (by decide +kernel) ?_
          refine hl_iconst h 4 dX6_night_123 (by decide) ?_
          refine hl_aload_n h 0 dX6_night_124 rfl ?_
          refine hl_get h hi6 hl_wm_0 rfl 8 rfl dX6_night_125 (by decide) (by decide +kernel) ?_
          refine hl_imul h dX6_night_128 ?_
          refine hl_iload_n h 2 dX6_night_129 rfl ?_
          refine hl_iadd h dX6_night_130 ?_
          refine hl_topc (nI (4 * T + k)) (by rw [hq 8 (by decide) (by decide) (by decide), hz 8 (by decide), q8]; exact hl_4i T k) ?_
          refine hl_aload_n h 0 dX6_night_131 rfl ?_
          refine hl_get h hi6 hl_wm_0 rfl 4 rfl dX6_night_132 (by decide) (by decide +kernel) ?_
          refine hl_iload_n h 2 dX6_night_135 rfl ?_
          refine hl_ildN h hl_wm_5 0 rfl k dX6_night_136 rfl (by omega) (by decide) ?_
          refine hl_istN h hl_wm_8 0 rfl (4 * T + k) dX6_night_137 rfl (by omega) (by decide) hl_wm_t10 ?_
          refine hl_nmM (fun g12 e13 => ?_)
          refine hl_aload_n h 0 dX6_night_138 rfl ?_
          refine hl_get h hi6 hl_wm_0 rfl 4 rfl dX6_night_139 (by decide) (by decide +kernel) ?_
          refine hl_iload_n h 2 dX6_night_142 rfl ?_
          refine hl_iconst h 0 dX6_night_143 (by decide) ?_
          refine hl_istN h hl_wm_5 0 rfl k dX6_night_144 rfl (by omega) (by decide) hl_wm_t4 ?_
          refine hl_nmM (fun g14 e15 => ?_)
          have q8b : g14 8 0 = nI T := by rw [e15, hl_su_ne _ _ (by decide), e13, hl_su_ne _ _ (by decide), hq 8 (by decide) (by decide) (by decide), hz 8 (by decide)]; exact q8
          have q6b : ¬ g14 6 0 = 0 := by rw [e15, hl_su_ne _ _ (by decide), e13, hl_su_ne _ _ (by decide), hq 6 (by decide) (by decide) (by decide), hz 6 (by decide), q6]; exact h2
          refine hl_iconst h 0 dX6_night_145 (by decide) ?_
          refine hl_istore_n h [(3, .int 0), (0, .ref (b 0)), (1, .int z.2), (2, .int (nI k))] dX6_night_146 (by decide) rfl ?_
          refine hl_iload_n h 0 dX6_night_147 rfl ?_
          refine hl_aload_n h 1 dX6_night_148 rfl ?_
          refine hl_get h hi6 hl_wm_0 rfl 8 rfl dX6_night_149 (by decide) (by decide +kernel) ?_
          refine hl_iconst h 2 dX6_night_152 (by decide) ?_
          refine hl_isub h dX6_night_153 ?_
          refine hl_icmp_gt h 200 dX6_night_154 (by decide) (fun c16 => ?_) (fun c16 => ?_)
          · refine hl_iinc h 3 (nI (k + 1)) [(2, .int (nI (k + 1))), (3, .int 0), (0, .ref (b 0)), (1, .int z.2)] dX6_night_200 rfl (hl_inc k) (by decide) rfl ?_
            refine hl_goto h 114 dX6_night_203 (by decide) ?_
            refine hl_lsub [2, 3, 0] rfl ?_
            have hy : g14 = b_X6_n2 T k v := by subst e15; subst e13; simp only [b_X6_n2]; rw [if_neg q6b]
            refine hl_wd (congrArg (hl_WM b cI cZ) hy) ?_
            exact ih2 (k + 1) (b_X6_n2 T k v) (by omega) (by rw [← hv2, hl_it_s]) (by intro i h91 h92 h93; rw [fr_X6_n2 T k v h91 h92 h93]; exact hq i h91 h92 h93)
          · refine hl_aload_n h 1 dX6_night_157 rfl ?_
            refine hl_get h hi6 hl_wm_0 rfl 6 rfl dX6_night_158 (by decide) (by decide +kernel) ?_
            refine hl_if_ne_T h 200 dX6_night_161 (by decide) (by exact q6b) ?_
            refine hl_iinc h 3 (nI (k + 1)) [(2, .int (nI (k + 1))), (3, .int 0), (0, .ref (b 0)), (1, .int z.2)] dX6_night_200 rfl (hl_inc k) (by decide) rfl ?_
            refine hl_goto h 114 dX6_night_203 (by decide) ?_
            refine hl_lsub [2, 3, 0] rfl ?_
            have hy : g14 = b_X6_n2 T k v := by subst e15; subst e13; simp only [b_X6_n2]; rw [if_neg q6b]
            refine hl_wd (congrArg (hl_WM b cI cZ) hy) ?_
            exact ih2 (k + 1) (b_X6_n2 T k v) (by omega) (by rw [← hv2, hl_it_s]) (by intro i h91 h92 h93; rw [fr_X6_n2 T k v h91 h92 h93]; exact hq i h91 h92 h93)
      refine hl_lsub [1, 2, 0] rfl ?_
      exact lp114 4 0 z.1 rfl rfl (fun _ _ _ _ => rfl)
    | succ n ih =>
      intro i z hi hv hz
      have hx4 : (z.1 13 i).toNatClampNeg < 4 := hl_idx (by rw [hz 13 (by decide)]; exact q13 i (by omega))
      refine hl_iload_n h 2 dX6_night_28 rfl ?_
      refine hl_aload_n h 0 dX6_night_29 rfl ?_
      refine hl_get h hi6 hl_wm_0 rfl 18 rfl dX6_night_30 (by decide) (by decide +kernel) ?_
      refine hl_icmp_ge_F h 112 dX6_night_33 (by decide) (by rw [hz 18 (by decide), q18]; exact nI_ge (by omega) (by omega)) ?_
      refine hl_aload_n h 0 dX6_night_36 rfl ?_
      refine hl_get h hi6 hl_wm_0 rfl 15 rfl dX6_night_37 (by decide) (by decide +kernel) ?_
      refine hl_iload_n h 2 dX6_night_40 rfl ?_
      refine hl_ildN h hl_wm_13 0 rfl i dX6_night_41 rfl (by omega) (by decide) ?_
      refine hl_aload_n h 0 dX6_night_42 rfl ?_
      refine hl_get h hi6 hl_wm_0 rfl 8 rfl dX6_night_43 (by decide) (by decide +kernel) ?_
      refine hl_icmp_ne h 62 dX6_night_46 (by decide) (fun c17 => ?_) (fun c17 => ?_)
      · refine hl_iconst h 0 dX6_night_62 (by decide) ?_
        refine hl_istore_n h [(3, .int 0), (0, .ref (b 0)), (1, .int z.2), (2, .int (nI i))] dX6_night_63 (by decide) rfl ?_
        refine hl_aload_n h 1 dX6_night_64 rfl ?_
        refine hl_get h hi6 hl_wm_0 rfl 11 rfl dX6_night_65 (by decide) (by decide +kernel) ?_
        refine hl_iconst h 4 dX6_night_68 (by decide) ?_
        refine hl_aload_n h 1 dX6_night_69 rfl ?_
        refine hl_get h hi6 hl_wm_0 rfl 8 rfl dX6_night_70 (by decide) (by decide +kernel) ?_
        refine hl_imul h dX6_night_73 ?_
        refine hl_aload_n h 1 dX6_night_74 rfl ?_
        refine hl_get h hi6 hl_wm_0 rfl 13 rfl dX6_night_75 (by decide) (by decide +kernel) ?_
        refine hl_iload_n h 3 dX6_night_78 rfl ?_
        refine hl_ildN h hl_wm_11 0 rfl i dX6_night_79 rfl (by omega) (by decide) ?_
        refine hl_iadd h dX6_night_80 ?_
        refine hl_topc (nI (4 * T + (z.1 13 i).toNatClampNeg)) (by rw [hz 8 (by decide), q8]; exact hl_4x (by rw [hz 13 (by decide)]; exact q13 i (by omega)) T) ?_
        refine hl_dup2 h dX6_night_81 rfl rfl ?_
        refine hl_ildN h hl_wm_9 0 rfl (4 * T + (z.1 13 i).toNatClampNeg) dX6_night_82 rfl (by omega) (by decide) ?_
        refine hl_iload_n h 0 dX6_night_83 rfl ?_
        refine hl_if_eq_T h 91 dX6_night_84 (by decide) (by decide) ?_
        refine hl_iconst h 0 dX6_night_91 (by decide) ?_
        refine hl_iadd h dX6_night_92 ?_
        refine hl_istN h hl_wm_9 0 rfl (4 * T + (z.1 13 i).toNatClampNeg) dX6_night_93 rfl (by omega) (by decide) hl_wm_t11 ?_
        refine hl_nmM (fun g18 e19 => ?_)
        refine hl_iload_n h 2 dX6_night_94 rfl ?_
        refine hl_iload_n h 0 dX6_night_95 rfl ?_
        refine hl_if_eq_T h 103 dX6_night_96 (by decide) (by decide) ?_
        refine hl_iconst h 0 dX6_night_103 (by decide) ?_
        refine hl_iadd h dX6_night_104 ?_
        refine hl_istore_n h [(1, .int (z.2 + 0)), (3, .int 0), (0, .ref (b 0)), (2, .int (nI i))] dX6_night_105 (by decide) rfl ?_
        refine hl_iinc h 3 (nI (i + 1)) [(2, .int (nI (i + 1))), (1, .int (z.2 + 0)), (3, .int 0), (0, .ref (b 0))] dX6_night_106 rfl (hl_inc i) (by decide) rfl ?_
        refine hl_goto h 28 dX6_night_109 (by decide) ?_
        refine hl_lsub [3, 1, 0] rfl ?_
        exact ih (i + 1) (g18, (z.2 + 0)) (by omega) (by rw [← hv, hl_it_s, show b_X6_n1 T i z = (g18, (z.2 + 0)) from (by subst e19; simp only [b_X6_n1]; rw [if_neg (fun q => c17 q.1)])]) (by intro k hk; show g18 k = _; rw [e19, hl_su_ne _ _ hk]; exact hz k hk)
      · refine hl_aload_n h 0 dX6_night_49 rfl ?_
        refine hl_get h hi6 hl_wm_0 rfl 16 rfl dX6_night_50 (by decide) (by decide +kernel) ?_
        refine hl_iload_n h 2 dX6_night_53 rfl ?_
        refine hl_zldN h hl_wm_14 1 rfl i dX6_night_54 rfl (by omega) (by decide) ?_
        refine hl_if_ne h 62 dX6_night_55 (by decide) (fun c20 => ?_) (fun c20 => ?_)
        · refine hl_iconst h 0 dX6_night_62 (by decide) ?_
          refine hl_istore_n h [(3, .int 0), (0, .ref (b 0)), (1, .int z.2), (2, .int (nI i))] dX6_night_63 (by decide) rfl ?_
          refine hl_aload_n h 1 dX6_night_64 rfl ?_
          refine hl_get h hi6 hl_wm_0 rfl 11 rfl dX6_night_65 (by decide) (by decide +kernel) ?_
          refine hl_iconst h 4 dX6_night_68 (by decide) ?_
          refine hl_aload_n h 1 dX6_night_69 rfl ?_
          refine hl_get h hi6 hl_wm_0 rfl 8 rfl dX6_night_70 (by decide) (by decide +kernel) ?_
          refine hl_imul h dX6_night_73 ?_
          refine hl_aload_n h 1 dX6_night_74 rfl ?_
          refine hl_get h hi6 hl_wm_0 rfl 13 rfl dX6_night_75 (by decide) (by decide +kernel) ?_
          refine hl_iload_n h 3 dX6_night_78 rfl ?_
          refine hl_ildN h hl_wm_11 0 rfl i dX6_night_79 rfl (by omega) (by decide) ?_
          refine hl_iadd h dX6_night_80 ?_
          refine hl_topc (nI (4 * T + (z.1 13 i).toNatClampNeg)) (by rw [hz 8 (by decide), q8]; exact hl_4x (by rw [hz 13 (by decide)]; exact q13 i (by omega)) T) ?_
          refine hl_dup2 h dX6_night_81 rfl rfl ?_
          refine hl_ildN h hl_wm_9 0 rfl (4 * T + (z.1 13 i).toNatClampNeg) dX6_night_82 rfl (by omega) (by decide) ?_
          refine hl_iload_n h 0 dX6_night_83 rfl ?_
          refine hl_if_eq_T h 91 dX6_night_84 (by decide) (by decide) ?_
          refine hl_iconst h 0 dX6_night_91 (by decide) ?_
          refine hl_iadd h dX6_night_92 ?_
          refine hl_istN h hl_wm_9 0 rfl (4 * T + (z.1 13 i).toNatClampNeg) dX6_night_93 rfl (by omega) (by decide) hl_wm_t11 ?_
          refine hl_nmM (fun g21 e22 => ?_)
          refine hl_iload_n h 2 dX6_night_94 rfl ?_
          refine hl_iload_n h 0 dX6_night_95 rfl ?_
          refine hl_if_eq_T h 103 dX6_night_96 (by decide) (by decide) ?_
          refine hl_iconst h 0 dX6_night_103 (by decide) ?_
          refine hl_iadd h dX6_night_104 ?_
          refine hl_istore_n h [(1, .int (z.2 + 0)), (3, .int 0), (0, .ref (b 0)), (2, .int (nI i))] dX6_night_105 (by decide) rfl ?_
          refine hl_iinc h 3 (nI (i + 1)) [(2, .int (nI (i + 1))), (1, .int (z.2 + 0)), (3, .int 0), (0, .ref (b 0))] dX6_night_106 rfl (hl_inc i) (by decide) rfl ?_
          refine hl_goto h 28 dX6_night_109 (by decide) ?_
          refine hl_lsub [3, 1, 0] rfl ?_
          exact ih (i + 1) (g21, (z.2 + 0)) (by omega) (by rw [← hv, hl_it_s, show b_X6_n1 T i z = (g21, (z.2 + 0)) from (by subst e22; simp only [b_X6_n1]; rw [if_neg (fun q => c20 q.2)])]) (by intro k hk; show g21 k = _; rw [e22, hl_su_ne _ _ hk]; exact hz k hk)
        · refine hl_iconst h 1 dX6_night_58 (by decide) ?_
          refine hl_goto h 63 dX6_night_59 (by decide) ?_
          refine hl_istore_n h [(3, .int 1), (0, .ref (b 0)), (1, .int z.2), (2, .int (nI i))] dX6_night_63 (by decide) rfl ?_
          refine hl_aload_n h 1 dX6_night_64 rfl ?_
          refine hl_get h hi6 hl_wm_0 rfl 11 rfl dX6_night_65 (by decide) (by decide +kernel) ?_
          refine hl_iconst h 4 dX6_night_68 (by decide) ?_
          refine hl_aload_n h 1 dX6_night_69 rfl ?_
          refine hl_get h hi6 hl_wm_0 rfl 8 rfl dX6_night_70 (by decide) (by decide +kernel) ?_
          refine hl_imul h dX6_night_73 ?_
          refine hl_aload_n h 1 dX6_night_74 rfl ?_
          refine hl_get h hi6 hl_wm_0 rfl 13 rfl dX6_night_75 (by decide) (by decide +kernel) ?_
          refine hl_iload_n h 3 dX6_night_78 rfl ?_
          refine hl_ildN h hl_wm_11 0 rfl i dX6_night_79 rfl (by omega) (by decide) ?_
          refine hl_iadd h dX6_night_80 ?_
          refine hl_topc (nI (4 * T + (z.1 13 i).toNatClampNeg)) (by rw [hz 8 (by decide), q8]; exact hl_4x (by rw [hz 13 (by decide)]; exact q13 i (by omega)) T) ?_
          refine hl_dup2 h dX6_night_81 rfl rfl ?_
          refine hl_ildN h hl_wm_9 0 rfl (4 * T + (z.1 13 i).toNatClampNeg) dX6_night_82 rfl (by omega) (by decide) ?_
          refine hl_iload_n h 0 dX6_night_83 rfl ?_
          refine hl_if_eq_F h 91 dX6_night_84 (by decide) (by decide) ?_
          refine hl_iconst h 1 dX6_night_87 (by decide) ?_
          refine hl_goto h 92 dX6_night_88 (by decide) ?_
          refine hl_iadd h dX6_night_92 ?_
          refine hl_istN h hl_wm_9 0 rfl (4 * T + (z.1 13 i).toNatClampNeg) dX6_night_93 rfl (by omega) (by decide) hl_wm_t11 ?_
          refine hl_nmM (fun g23 e24 => ?_)
          refine hl_iload_n h 2 dX6_night_94 rfl ?_
          refine hl_iload_n h 0 dX6_night_95 rfl ?_
          refine hl_if_eq_F h 103 dX6_night_96 (by decide) (by decide) ?_
          refine hl_iconst h 1 dX6_night_99 (by decide) ?_
          refine hl_goto h 104 dX6_night_100 (by decide) ?_
          refine hl_iadd h dX6_night_104 ?_
          refine hl_istore_n h [(1, .int (z.2 + 1)), (3, .int 1), (0, .ref (b 0)), (2, .int (nI i))] dX6_night_105 (by decide) rfl ?_
          refine hl_iinc h 3 (nI (i + 1)) [(2, .int (nI (i + 1))), (1, .int (z.2 + 1)), (3, .int 1), (0, .ref (b 0))] dX6_night_106 rfl (hl_inc i) (by decide) rfl ?_
          refine hl_goto h 28 dX6_night_109 (by decide) ?_
          refine hl_lsub [3, 1, 0] rfl ?_
          exact ih (i + 1) (g23, (z.2 + 1)) (by omega) (by rw [← hv, hl_it_s, show b_X6_n1 T i z = (g23, (z.2 + 1)) from (by subst e24; simp only [b_X6_n1]; rw [if_pos ⟨c17, c20⟩])]) (by intro k hk; show g23 k = _; rw [e24, hl_su_ne _ _ hk]; exact hz k hk)
  refine hl_lsub [2, 1, 0] rfl ?_
  exact lp28 N 0 (g4, 0) (Nat.zero_add N) rfl (fun _ _ => rfl)
