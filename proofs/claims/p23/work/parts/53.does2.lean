/-! The law: does -/
set_option maxHeartbeats 4000000 in
set_option maxRecDepth 100000 in
theorem c_L_does (l : Launch) (D : va_G) (cI cZ cJ : ClassId) (a : Nat → Nat) {cn : Nat} {lin : Int32} {N M T P : Nat} {t g r : Nat → Nat → Int32} (hc : cn < 100) (hJ : hp_J cn lin N M T P t g r) (V W : Nat) (hV : V < 2147483648) (hW : W < 2147483648) : hl_KI D (hl_ty cI cZ cJ) l yL_does wsL_does ({ frames := 5, cells := 0, slots := 0, locals := 113 } : Room) 0 0 [.ref (a 0), .ref (a 25), .ref (a 26), .ref (a 27), .ref (a 28), .int (nI V), .int (nI W)] (hl_LW a cI cZ r g) (fun x9 w9 => x9 = 1 ∧ ∃ r9 g9 : Nat → Nat → Int32, w9 = hl_LW a cI cZ r9 g9 ∧ hp_I (cn + 1) (if V % 10 = 1 then lin + nI (1 + W % 6) else lin) g9 r9) := by
  refine hl_KI_of (cc := cL_does) (maxL := 19) .boolean rfl (fun _ => Or.inl rfl) (by decide) rfl (Nat.le_of_ble_eq_true rfl) ?_
  intro p e s m args below meth c A Q h hend
  have hx : ∀ (lin9 : Int32) {r9 g9 : Nat → Nat → Int32} {pc : Nat} {ls : List (Nat × Value)}, lin9 = (if V % 10 = 1 then lin + nI (1 + W % 6) else lin) → decode cL_does pc = .ok (.ireturn, 1) → hp_I (cn + 1) lin9 g9 r9 → hl_X p l e ({ frames := 5, cells := 0, slots := 0, locals := 113 } : Room) s m args below meth c 19 D A 0 0 Q (hl_LW a cI cZ r9 g9) pc ls [.int 1] := fun lin9 r9 g9 pc ls e9 hd hI => hend hd (fun _ => Or.inr rfl) ⟨rfl, r9, g9, rfl, e9 ▸ hI⟩
  have hcc : g 16 0 = nI N := hJ.2.1.1.2.1
  have hN60 : N ≤ 60 := hJ.2.2.2.2.2.2.2.2.2.2
  have hI : V / 10 % 4 < 4 := Nat.mod_lt _ (by decide)
  have hK : V / 40 % 2 < 2 := Nat.mod_lt _ (by decide)
  refine hl_ls (ls' := [(0, .ref (a 0)), (1, .ref (a 25)), (2, .ref (a 26)), (3, .ref (a 27)), (4, .ref (a 28)), (5, .int (nI V)), (6, .int (nI W))]) rfl ?_
  refine hl_iload h 5 dL_does_0 rfl ?_
  refine hl_bipush h 10 dL_does_2 (by decide) ?_
  refine hl_idiv h dL_does_4 (by decide) ?_
  refine hl_topc (nI (V / 10)) (pk_div (a := V) (d := 10) (by omega) (by omega) (by omega)) ?_
  refine hl_iconst h 4 dL_does_5 (by decide) ?_
  refine hl_irem h dL_does_6 (by decide) ?_
  refine hl_topc (nI ((V / 10) % 4)) (pk_rem (a := (V / 10)) (d := 4) (by omega) (by omega) (by omega)) ?_
  refine hl_istore h [(7, .int (nI ((V / 10) % 4))), (0, .ref (a 0)), (1, .ref (a 25)), (2, .ref (a 26)), (3, .ref (a 27)), (4, .ref (a 28)), (5, .int (nI V)), (6, .int (nI W))] dL_does_7 (by decide) rfl ?_
  refine hl_iload h 6 dL_does_9 rfl ?_
  refine hl_bipush h 40 dL_does_11 (by decide) ?_
  refine hl_idiv h dL_does_13 (by decide) ?_
  refine hl_topc (nI (V / 40)) (pk_div (a := V) (d := 40) (by omega) (by omega) (by omega)) ?_
  refine hl_iconst h 2 dL_does_14 (by decide) ?_
  refine hl_irem h dL_does_15 (by decide) ?_
  refine hl_topc (nI ((V / 40) % 2)) (pk_rem (a := (V / 40)) (d := 2) (by omega) (by omega) (by omega)) ?_
  refine hl_istore h [(8, .int (nI ((V / 40) % 2))), (7, .int (nI ((V / 10) % 4))), (0, .ref (a 0)), (1, .ref (a 25)), (2, .ref (a 26)), (3, .ref (a 27)), (4, .ref (a 28)), (5, .int (nI V)), (6, .int (nI W))] dL_does_16 (by decide) rfl ?_
  refine hl_aload_n h 2 dL_does_18 rfl ?_
  refine hl_callPViD h (st := []) (wc := hl_WC a cI cZ g) (wr := hl_LR a cI r) [4, 5, 6, 7, 8, 9, 10, 11, 12, 13, 14, 15, 16, 17, 18, 19, 20, 21, 22, 23, 24, 25, 26, 27, 28] [0, 1, 2, 3] rfl rfl (by decide) (by decide) (by decide) (c_X5_bookings l D cI cZ cJ a g) (cwV 0 h.2.2.2.2.1 gL_does_X5_bookings rfl rfl rfl (by decide +kernel) ⟨Nat.le_of_ble_eq_true rfl, Nat.le_of_ble_eq_true rfl⟩) hl_lw_4 rfl dL_does_19 rfl (Nat.le_of_ble_eq_true rfl) ⟨Nat.le_of_ble_eq_true rfl, Nat.le_of_ble_eq_true rfl⟩ rfl ?_
  refine hl_wd (w' := hl_LW a cI cZ r g) rfl ?_
  refine hl_topc (nI N) hcc ?_
  refine hl_istore h [(9, .int (nI N)), (8, .int (nI ((V / 40) % 2))), (7, .int (nI ((V / 10) % 4))), (0, .ref (a 0)), (1, .ref (a 25)), (2, .ref (a 26)), (3, .ref (a 27)), (4, .ref (a 28)), (5, .int (nI V)), (6, .int (nI W))] dL_does_22 (by decide) rfl ?_
  have sw : ∀ J : Int32, (J = -1 ∨ ∃ j : Nat, j < N ∧ J = nI j) → hl_X p l e ({ frames := 5, cells := 0, slots := 0, locals := 113 } : Room) s m args below meth c 19 D A 0 0 Q (hl_LW a cI cZ r g) 55 [(9, .int (nI N)), (8, .int (nI ((V / 40) % 2))), (7, .int (nI ((V / 10) % 4))), (0, .ref (a 0)), (1, .ref (a 25)), (2, .ref (a 26)), (3, .ref (a 27)), (4, .ref (a 28)), (5, .int (nI V)), (6, .int (nI W))] [.int J] := by
    intro J hJJ
    refine hl_istore h [(10, .int J), (9, .int (nI N)), (8, .int (nI ((V / 40) % 2))), (7, .int (nI ((V / 10) % 4))), (0, .ref (a 0)), (1, .ref (a 25)), (2, .ref (a 26)), (3, .ref (a 27)), (4, .ref (a 28)), (5, .int (nI V)), (6, .int (nI W))] dL_does_55 (by decide) rfl ?_
    refine hl_iload h 9 dL_does_57 rfl ?_
    refine hl_bipush h 10 dL_does_59 (by decide) ?_
    refine hl_irem h dL_does_61 (by decide) ?_
    refine hl_topc (nI (V % 10)) (pk_rem (a := V) (d := 10) (by omega) (by omega) (by omega)) ?_
    refine hl_lsub [4, 5, 6, 7, 8, 9, 10, 3, 2, 1, 0] rfl ?_
    have hv10 : V % 10 < 10 := Nat.mod_lt _ (by decide)
    rcases (show V % 10 = 0 ∨ V % 10 = 1 ∨ V % 10 = 2 ∨ V % 10 = 3 ∨ V % 10 = 4 ∨ V % 10 = 5 ∨ V % 10 = 6 ∨ V % 10 = 7 ∨ V % 10 = 8 ∨ V % 10 = 9 by omega) with hv | hv | hv | hv | hv | hv | hv | hv | hv | hv
    · refine hl_topc (nI 0) (congrArg nI hv) ?_
      refine hl_tableIn h 112 dL_does_62 (off := 50) (by decide) (by decide) (by decide) (by decide) ?_
      exact d_setRooms hc hJ h hW hI hK (fun hd hI9 => hx (lin) (by rw [if_neg (by omega)]) hd hI9)
    · refine hl_topc (nI 1) (congrArg nI hv) ?_
      refine hl_tableIn h 168 dL_does_62 (off := 106) (by decide) (by decide) (by decide) (by decide) ?_
      exact d_buyLinen hc hJ h hW hI hK (fun hd hI9 => hx (lin + nI (1 + W % 6)) (by rw [if_pos (by omega)]) hd hI9)
    · refine hl_topc (nI 2) (congrArg nI hv) ?_
      refine hl_tableIn h 208 dL_does_62 (off := 146) (by decide) (by decide) (by decide) (by decide) ?_
      exact d_setBroken hc hJ h hW hI hK (fun hd hI9 => hx (lin) (by rw [if_neg (by omega)]) hd hI9)
    · refine hl_topc (nI 3) (congrArg nI hv) ?_
      refine hl_tableIn h 262 dL_does_62 (off := 200) (by decide) (by decide) (by decide) (by decide) ?_
      exact d_book hc hJ h hW hI hK (fun hd hI9 => hx (lin) (by rw [if_neg (by omega)]) hd hI9)
    · refine hl_topc (nI 4) (congrArg nI hv) ?_
      refine hl_tableIn h 262 dL_does_62 (off := 200) (by decide) (by decide) (by decide) (by decide) ?_
      exact d_book hc hJ h hW hI hK (fun hd hI9 => hx (lin) (by rw [if_neg (by omega)]) hd hI9)
    · refine hl_topc (nI 5) (congrArg nI hv) ?_
      refine hl_tableIn h 262 dL_does_62 (off := 200) (by decide) (by decide) (by decide) (by decide) ?_
      exact d_book hc hJ h hW hI hK (fun hd hI9 => hx (lin) (by rw [if_neg (by omega)]) hd hI9)
    · refine hl_topc (nI 6) (congrArg nI hv) ?_
      refine hl_tableIn h 379 dL_does_62 (off := 317) (by decide) (by decide) (by decide) (by decide) ?_
      rcases hJJ with rfl | ⟨j, hj, rfl⟩
      · exact d_come0 hc hJ h hW hI hK (fun hd hI9 => hx (lin) (by rw [if_neg (by omega)]) hd hI9)
      · exact d_come1 hc hJ h hW hI hK hj (fun hd hI9 => hx (lin) (by rw [if_neg (by omega)]) hd hI9)
    · refine hl_topc (nI 7) (congrArg nI hv) ?_
      refine hl_tableIn h 379 dL_does_62 (off := 317) (by decide) (by decide) (by decide) (by decide) ?_
      rcases hJJ with rfl | ⟨j, hj, rfl⟩
      · exact d_come0 hc hJ h hW hI hK (fun hd hI9 => hx (lin) (by rw [if_neg (by omega)]) hd hI9)
      · exact d_come1 hc hJ h hW hI hK hj (fun hd hI9 => hx (lin) (by rw [if_neg (by omega)]) hd hI9)
    · refine hl_topc (nI 8) (congrArg nI hv) ?_
      refine hl_tableIn h 509 dL_does_62 (off := 447) (by decide) (by decide) (by decide) (by decide) ?_
      exact d_burn hc hJ h hW hI hK (fun hd hI9 => hx (lin) (by rw [if_neg (by omega)]) hd hI9)
    · refine hl_topc (nI 9) (congrArg nI hv) ?_
      refine hl_tableOut h 593 dL_does_62 (Or.inr (by decide)) (by decide) ?_
      exact d_rest hc hJ h hW hI hK (fun hd hI9 => hx (lin) (by rw [if_neg (by omega)]) hd hI9)
  refine hl_iload h 0 dL_does_24 rfl ?_
  refine hl_if_ne h 33 dL_does_26 (by decide) (fun c1 => ?_) (fun c1 => ?_)
  · have hN0 : 0 < N := Nat.pos_of_ne_zero (fun z => c1 (by rw [z]; rfl))
    have hmd : W % N < N := Nat.mod_lt _ hN0
    refine hl_iload h 0 dL_does_33 rfl ?_
    refine hl_iconst h 1 dL_does_35 (by decide) ?_
    refine hl_isub h dL_does_36 ?_
    refine hl_topc (nI (N - 1)) (hp_subn (b := 1) (by omega)) ?_
    refine hl_iload h 9 dL_does_37 rfl ?_
    refine hl_iload h 0 dL_does_39 rfl ?_
    refine hl_bipush h 6 dL_does_41 (by decide) ?_
    refine hl_icmp_ge h 51 dL_does_43 (by decide) (fun c2 => ?_) (fun c2 => ?_)
    · have hN6 : 6 ≤ N := Nat.not_lt.mp (fun z => nI_ge (a := N) (b := 6) z (by omega) c2)
      refine hl_bipush h 6 dL_does_51 (by decide) ?_
      refine hl_irem h dL_does_53 (by decide) ?_
      refine hl_topc (nI (W % 6)) (pk_rem (a := W) (d := 6) (by omega) (by omega) (by omega)) ?_
      refine hl_isub h dL_does_54 ?_
      refine hl_topc (nI (N - 1 - (W % 6))) (hp_subn (by omega)) ?_
      exact sw _ (Or.inr ⟨_, by omega, rfl⟩)
    · refine hl_iload h 0 dL_does_46 rfl ?_
      refine hl_goto h 53 dL_does_48 (by decide) ?_
      refine hl_irem h dL_does_53 (nI_ne0 hN0 (by omega)) ?_
      refine hl_topc (nI (W % N)) (pk_rem (a := W) (d := N) (by omega) (by omega) (by omega)) ?_
      refine hl_isub h dL_does_54 ?_
      refine hl_topc (nI (N - 1 - (W % N))) (hp_subn (by omega)) ?_
      exact sw _ (Or.inr ⟨_, by omega, rfl⟩)
  · refine hl_iconst h (-1) dL_does_29 (by decide) ?_
    refine hl_goto h 55 dL_does_30 (by decide) ?_
    exact sw (-1) (Or.inl rfl)
