/-! THE LAW: one step each, whatever it is called with -/
set_option maxHeartbeats 4000000 in
set_option maxRecDepth 100000 in
theorem law_setRooms {p : Program} {l : Launch} {e : Env} {s : State} {m : MethodId} {below : List Frame} {meth : Method} {c : Code} {D : va_G} {cI cZ cJ : ClassId} {A : Nat → Prop} {cells slots : Nat} {Q : State → Prop} {bs L : Nat} {xs : Nat → Int32} {b a : Nat → Nat} {o : Nat} (H : hl_H p s m c D cI cZ cJ A bs L xs) (hst : l.stackTraces = false) (hf : cells + 1 ≤ room_1.cells ∧ slots + 6 ≤ room_1.slots) {i : Nat} (hi : i + 5 ≤ L) {f : Nat → Int64} {g t : Nat → Nat → Int32} {n0 N M T : Nat} (hc : n0 < 512) (hR : hl_R n0 N M T g t) (kk : ∀ (f' : Nat → Int64) (t' g' : Nat → Nat → Int32) (N' M' T' : Nat), hl_R (n0 + 1) N' M' T' g' t' → hl_X p l e room_1 s m #[Value.ref bs] below meth c 7 D A (cells + 1) (slots + 6) Q (hl_LW b a cI cZ cJ o f' t' g') 1252 (hl_LS bs b a o (nI i)) []) : hl_X p l e room_1 s m #[Value.ref bs] below meth c 7 D A cells slots Q (hl_LW b a cI cZ cJ o f t g) 132 (hl_LS bs b a o (nI i)) [] := by
  have ho := hR.1
  have hoM := hl_R_okM hR
  have hu := hl_R_up hc hR
  have hR0 := hl_R_t (fun _ => 0) hR
  by_cases h1 : vp_in (xs (i + 1)) 4
  · by_cases h2 : vp_in (xs (i + 2)) 2
    · by_cases h3 : ¬ xs (i + 3) < 0 ∧ xs (i + 3) ≤ 10
      · by_cases h5 : ¬ xs (i + 4) < 1 ∧ xs (i + 4) ≤ 100
        · exact lw_setRooms H hf hi (by exact ⟨rfl, rfl, Nat.le_of_ble_eq_true rfl, Nat.le_of_ble_eq_true rfl⟩) (by exact ⟨rfl, rfl, Nat.le_of_ble_eq_true rfl, Nat.le_of_ble_eq_true rfl⟩) (w_L_setRooms_0 l D cI cZ cJ o f a g (xs (i + 1)) (xs (i + 2)) (xs (i + 3)) (xs (i + 4)) h1 h2 h3.1 h3.2 h5.1 h5.2) (c_X6_setRooms_0 l D cI cZ cJ b t (xs (i + 1)) (xs (i + 2)) (xs (i + 3)) (xs (i + 4)) h1 h2 h3.1 h3.2 h5.1 h5.2) rfl (fun _ => hl_v0 f (hl_q_rooms hR _ _)) (kk _ _ _ _ _ _ (hl_R_setRooms hc hR h3.1 h3.2 h5.1 h5.2))
        · exact lw_setRooms H hf hi (by exact ⟨rfl, rfl, Nat.le_of_ble_eq_true rfl, Nat.le_of_ble_eq_true rfl⟩) (by exact ⟨rfl, rfl, Nat.le_of_ble_eq_true rfl, Nat.le_of_ble_eq_true rfl⟩) (w_L_setRooms_4 l D cI cZ cJ o f a g hst (xs (i + 1)) (xs (i + 2)) (xs (i + 3)) (xs (i + 4)) h1 h2 h3.1 h3.2 h5) (c_X6_setRooms_4 l D cI cZ cJ b t (xs (i + 1)) (xs (i + 2)) (xs (i + 3)) (xs (i + 4)) h1 h2 h3.1 h3.2 h5) rfl (fun z => absurd z (by decide)) (kk _ _ _ _ _ _ (hl_R_t _ hu))
      · exact lw_setRooms H hf hi (by exact ⟨rfl, rfl, Nat.le_of_ble_eq_true rfl, Nat.le_of_ble_eq_true rfl⟩) (by exact ⟨rfl, rfl, Nat.le_of_ble_eq_true rfl, Nat.le_of_ble_eq_true rfl⟩) (w_L_setRooms_3 l D cI cZ cJ o f a g hst (xs (i + 1)) (xs (i + 2)) (xs (i + 3)) (xs (i + 4)) h1 h2 h3) (c_X6_setRooms_3 l D cI cZ cJ b t (xs (i + 1)) (xs (i + 2)) (xs (i + 3)) (xs (i + 4)) h1 h2 h3) rfl (fun z => absurd z (by decide)) (kk _ _ _ _ _ _ (hl_R_t _ hu))
    · exact lw_setRooms H hf hi (by exact ⟨rfl, rfl, Nat.le_of_ble_eq_true rfl, Nat.le_of_ble_eq_true rfl⟩) (by exact ⟨rfl, rfl, Nat.le_of_ble_eq_true rfl, Nat.le_of_ble_eq_true rfl⟩) (w_L_setRooms_2 l D cI cZ cJ o f a g hst (xs (i + 1)) (xs (i + 2)) (xs (i + 3)) (xs (i + 4)) h1 h2) (c_X6_setRooms_2 l D cI cZ cJ b t (xs (i + 1)) (xs (i + 2)) (xs (i + 3)) (xs (i + 4)) h1 h2) rfl (fun z => absurd z (by decide)) (kk _ _ _ _ _ _ (hl_R_t _ hu))
  · exact lw_setRooms H hf hi (by exact ⟨rfl, rfl, Nat.le_of_ble_eq_true rfl, Nat.le_of_ble_eq_true rfl⟩) (by exact ⟨rfl, rfl, Nat.le_of_ble_eq_true rfl, Nat.le_of_ble_eq_true rfl⟩) (w_L_setRooms_1 l D cI cZ cJ o f a g hst (xs (i + 1)) (xs (i + 2)) (xs (i + 3)) (xs (i + 4)) h1) (c_X6_setRooms_1 l D cI cZ cJ b t (xs (i + 1)) (xs (i + 2)) (xs (i + 3)) (xs (i + 4)) h1) rfl (fun z => absurd z (by decide)) (kk _ _ _ _ _ _ (hl_R_t _ hu))

set_option maxHeartbeats 4000000 in
set_option maxRecDepth 100000 in
theorem law_buyLinen {p : Program} {l : Launch} {e : Env} {s : State} {m : MethodId} {below : List Frame} {meth : Method} {c : Code} {D : va_G} {cI cZ cJ : ClassId} {A : Nat → Prop} {cells slots : Nat} {Q : State → Prop} {bs L : Nat} {xs : Nat → Int32} {b a : Nat → Nat} {o : Nat} (H : hl_H p s m c D cI cZ cJ A bs L xs) (hst : l.stackTraces = false) (hf : cells + 1 ≤ room_1.cells ∧ slots + 6 ≤ room_1.slots) {i : Nat} (hi : i + 5 ≤ L) {f : Nat → Int64} {g t : Nat → Nat → Int32} {n0 N M T : Nat} (hc : n0 < 512) (hR : hl_R n0 N M T g t) (kk : ∀ (f' : Nat → Int64) (t' g' : Nat → Nat → Int32) (N' M' T' : Nat), hl_R (n0 + 1) N' M' T' g' t' → hl_X p l e room_1 s m #[Value.ref bs] below meth c 7 D A (cells + 1) (slots + 6) Q (hl_LW b a cI cZ cJ o f' t' g') 1252 (hl_LS bs b a o (nI i)) []) : hl_X p l e room_1 s m #[Value.ref bs] below meth c 7 D A cells slots Q (hl_LW b a cI cZ cJ o f t g) 224 (hl_LS bs b a o (nI i)) [] := by
  have ho := hR.1
  have hoM := hl_R_okM hR
  have hu := hl_R_up hc hR
  have hR0 := hl_R_t (fun _ => 0) hR
  by_cases h1 : vp_in (xs (i + 1)) 4
  · by_cases h2 : ¬ xs (i + 2) < 1 ∧ xs (i + 2) ≤ 20
    · have hR1 := hl_R_buyLinen (x := xs (i + 1)) (n := xs (i + 2)) hc hR
      exact lw_buyLinen H hf hi (by exact ⟨rfl, rfl, Nat.le_of_ble_eq_true rfl, Nat.le_of_ble_eq_true rfl⟩) (by exact ⟨rfl, rfl, Nat.le_of_ble_eq_true rfl, Nat.le_of_ble_eq_true rfl⟩) (w_L_buyLinen_0 l D cI cZ cJ o f a g (xs (i + 1)) (xs (i + 2)) h1 h2.1 h2.2) (c_X6_buyLinen_0 l D cI cZ cJ b t (xs (i + 1)) (xs (i + 2)) h1 h2.1 h2.2) rfl (fun _ => hl_v0 f (hl_q_clean hR1 _)) (kk _ _ _ _ _ _ (hR1))
    · exact lw_buyLinen H hf hi (by exact ⟨rfl, rfl, Nat.le_of_ble_eq_true rfl, Nat.le_of_ble_eq_true rfl⟩) (by exact ⟨rfl, rfl, Nat.le_of_ble_eq_true rfl, Nat.le_of_ble_eq_true rfl⟩) (w_L_buyLinen_2 l D cI cZ cJ o f a g hst (xs (i + 1)) (xs (i + 2)) h1 h2) (c_X6_buyLinen_2 l D cI cZ cJ b t (xs (i + 1)) (xs (i + 2)) h1 h2) rfl (fun z => absurd z (by decide)) (kk _ _ _ _ _ _ (hl_R_t _ hu))
  · exact lw_buyLinen H hf hi (by exact ⟨rfl, rfl, Nat.le_of_ble_eq_true rfl, Nat.le_of_ble_eq_true rfl⟩) (by exact ⟨rfl, rfl, Nat.le_of_ble_eq_true rfl, Nat.le_of_ble_eq_true rfl⟩) (w_L_buyLinen_1 l D cI cZ cJ o f a g hst (xs (i + 1)) (xs (i + 2)) h1) (c_X6_buyLinen_1 l D cI cZ cJ b t (xs (i + 1)) (xs (i + 2)) h1) rfl (fun z => absurd z (by decide)) (kk _ _ _ _ _ _ (hl_R_t _ hu))

set_option maxHeartbeats 4000000 in
set_option maxRecDepth 100000 in
theorem law_book {p : Program} {l : Launch} {e : Env} {s : State} {m : MethodId} {below : List Frame} {meth : Method} {c : Code} {D : va_G} {cI cZ cJ : ClassId} {A : Nat → Prop} {cells slots : Nat} {Q : State → Prop} {bs L : Nat} {xs : Nat → Int32} {b a : Nat → Nat} {o : Nat} (H : hl_H p s m c D cI cZ cJ A bs L xs) (hst : l.stackTraces = false) (hf : cells + 1 ≤ room_1.cells ∧ slots + 6 ≤ room_1.slots) {i : Nat} (hi : i + 5 ≤ L) {f : Nat → Int64} {g t : Nat → Nat → Int32} {n0 N M T : Nat} (hc : n0 < 512) (hR : hl_R n0 N M T g t) (kk : ∀ (f' : Nat → Int64) (t' g' : Nat → Nat → Int32) (N' M' T' : Nat), hl_R (n0 + 1) N' M' T' g' t' → hl_X p l e room_1 s m #[Value.ref bs] below meth c 7 D A (cells + 1) (slots + 6) Q (hl_LW b a cI cZ cJ o f' t' g') 1252 (hl_LS bs b a o (nI i)) []) : hl_X p l e room_1 s m #[Value.ref bs] below meth c 7 D A cells slots Q (hl_LW b a cI cZ cJ o f t g) 333 (hl_LS bs b a o (nI i)) [] := by
  have ho := hR.1
  have hoM := hl_R_okM hR
  have hu := hl_R_up hc hR
  have hR0 := hl_R_t (fun _ => 0) hR
  have e23 := hl_q_today hR
  have e16 := hl_q_bookings hR
  by_cases h1 : vp_in (xs (i + 1)) 10
  · by_cases h2 : vp_in (xs (i + 2)) 4
    · by_cases h3 : vp_in (xs (i + 3)) 2
      · by_cases h4 : ¬ xs (i + 4) < g 23 0 ∧ xs (i + 4) ≤ g 23 0 + 10
        · by_cases hN : N < 80
          · by_cases h7 : ¬ r_X5_takesMore g N (xs (i + 2)) (xs (i + 3)) (xs (i + 4)) = 0
            · have h6 : g 16 0 < 80 := by rw [ho.2.1]; exact nI_lt hN (by decide)
              exact lw_book H hf hi (by exact ⟨rfl, rfl, Nat.le_of_ble_eq_true rfl, Nat.le_of_ble_eq_true rfl⟩) (by exact ⟨rfl, rfl, Nat.le_of_ble_eq_true rfl, Nat.le_of_ble_eq_true rfl⟩) (w_L_book_0 l D cI cZ cJ o f a g (xs (i + 1)) (xs (i + 2)) (xs (i + 3)) (xs (i + 4)) N M ho h1 h2 h3 h4.1 h4.2 h6 h7) (c_X6_book_0 l D cI cZ cJ b t (xs (i + 1)) (xs (i + 2)) (xs (i + 3)) (xs (i + 4)) N M T hoM h1 h2 h3 (by rw [← e23]; exact h4.1) (by rw [← e23]; exact h4.2) (by rw [← e16]; exact h6) (Decidable.not_not.mp (fun z => h7 ((hl_q_more hR h2 _ _).mpr z)))) rfl (fun _ => hl_v0 f (by rw [e16]; grind)) (kk _ _ _ _ _ _ (hl_R_book hc hR h2 h3 h4.1 h4.2 hN))
            · have h7b := Decidable.not_not.mp h7
              have h6 : ¬ g 16 0 = 80 := by rw [ho.2.1, show (80 : Int32) = nI 80 by decide, nI_eq (by omega) (by omega)]; omega
              exact lw_book H hf hi (by exact ⟨rfl, rfl, Nat.le_of_ble_eq_true rfl, Nat.le_of_ble_eq_true rfl⟩) (by exact ⟨rfl, rfl, Nat.le_of_ble_eq_true rfl, Nat.le_of_ble_eq_true rfl⟩) (w_L_book_5 l D cI cZ cJ o f a g hst (xs (i + 1)) (xs (i + 2)) (xs (i + 3)) (xs (i + 4)) N M ho h1 h2 h3 h4.1 h4.2 (Or.inr h7b)) (c_X6_book_6 l D cI cZ cJ b t (xs (i + 1)) (xs (i + 2)) (xs (i + 3)) (xs (i + 4)) N M T hoM h1 h2 h3 (by rw [← e23]; exact h4.1) (by rw [← e23]; exact h4.2) (by rw [← e16]; exact h6) ((hl_q_more hR h2 _ _).mp h7b)) rfl (fun z => absurd z (by decide)) (kk _ _ _ _ _ _ (hl_R_t _ hu))
          · have hN8 : N = 80 := by have := ho.1; omega
            have h6 : g 16 0 = 80 := by rw [ho.2.1, hN8]; decide
            exact lw_book H hf hi (by exact ⟨rfl, rfl, Nat.le_of_ble_eq_true rfl, Nat.le_of_ble_eq_true rfl⟩) (by exact ⟨rfl, rfl, Nat.le_of_ble_eq_true rfl, Nat.le_of_ble_eq_true rfl⟩) (w_L_book_5 l D cI cZ cJ o f a g hst (xs (i + 1)) (xs (i + 2)) (xs (i + 3)) (xs (i + 4)) N M ho h1 h2 h3 h4.1 h4.2 (Or.inl (by rw [h6]; decide))) (c_X6_book_5 l D cI cZ cJ b t (xs (i + 1)) (xs (i + 2)) (xs (i + 3)) (xs (i + 4)) N M T hoM h1 h2 h3 (by rw [← e23]; exact h4.1) (by rw [← e23]; exact h4.2) (by rw [← e16]; exact h6)) rfl (fun z => absurd z (by decide)) (kk _ _ _ _ _ _ (hl_R_t _ hu))
        · exact lw_book H hf hi (by exact ⟨rfl, rfl, Nat.le_of_ble_eq_true rfl, Nat.le_of_ble_eq_true rfl⟩) (by exact ⟨rfl, rfl, Nat.le_of_ble_eq_true rfl, Nat.le_of_ble_eq_true rfl⟩) (w_L_book_4 l D cI cZ cJ o f a g hst (xs (i + 1)) (xs (i + 2)) (xs (i + 3)) (xs (i + 4)) h1 h2 h3 h4) (c_X6_book_4 l D cI cZ cJ b t (xs (i + 1)) (xs (i + 2)) (xs (i + 3)) (xs (i + 4)) N M T hoM h1 h2 h3 (by rw [← e23]; exact h4)) rfl (fun z => absurd z (by decide)) (kk _ _ _ _ _ _ (hl_R_t _ hu))
      · exact lw_book H hf hi (by exact ⟨rfl, rfl, Nat.le_of_ble_eq_true rfl, Nat.le_of_ble_eq_true rfl⟩) (by exact ⟨rfl, rfl, Nat.le_of_ble_eq_true rfl, Nat.le_of_ble_eq_true rfl⟩) (w_L_book_3 l D cI cZ cJ o f a g hst (xs (i + 1)) (xs (i + 2)) (xs (i + 3)) (xs (i + 4)) h1 h2 h3) (c_X6_book_3 l D cI cZ cJ b t (xs (i + 1)) (xs (i + 2)) (xs (i + 3)) (xs (i + 4)) N M T hoM h1 h2 h3) rfl (fun z => absurd z (by decide)) (kk _ _ _ _ _ _ (hl_R_t _ hu))
    · exact lw_book H hf hi (by exact ⟨rfl, rfl, Nat.le_of_ble_eq_true rfl, Nat.le_of_ble_eq_true rfl⟩) (by exact ⟨rfl, rfl, Nat.le_of_ble_eq_true rfl, Nat.le_of_ble_eq_true rfl⟩) (w_L_book_2 l D cI cZ cJ o f a g hst (xs (i + 1)) (xs (i + 2)) (xs (i + 3)) (xs (i + 4)) h1 h2) (c_X6_book_2 l D cI cZ cJ b t (xs (i + 1)) (xs (i + 2)) (xs (i + 3)) (xs (i + 4)) N M T hoM h1 h2) rfl (fun z => absurd z (by decide)) (kk _ _ _ _ _ _ (hl_R_t _ hu))
  · exact lw_book H hf hi (by exact ⟨rfl, rfl, Nat.le_of_ble_eq_true rfl, Nat.le_of_ble_eq_true rfl⟩) (by exact ⟨rfl, rfl, Nat.le_of_ble_eq_true rfl, Nat.le_of_ble_eq_true rfl⟩) (w_L_book_1 l D cI cZ cJ o f a g hst (xs (i + 1)) (xs (i + 2)) (xs (i + 3)) (xs (i + 4)) h1) (c_X6_book_1 l D cI cZ cJ b t (xs (i + 1)) (xs (i + 2)) (xs (i + 3)) (xs (i + 4)) N M T hoM h1) rfl (fun z => absurd z (by decide)) (kk _ _ _ _ _ _ (hl_R_t _ hu))

set_option maxHeartbeats 4000000 in
set_option maxRecDepth 100000 in
theorem law_come {p : Program} {l : Launch} {e : Env} {s : State} {m : MethodId} {below : List Frame} {meth : Method} {c : Code} {D : va_G} {cI cZ cJ : ClassId} {A : Nat → Prop} {cells slots : Nat} {Q : State → Prop} {bs L : Nat} {xs : Nat → Int32} {b a : Nat → Nat} {o : Nat} (H : hl_H p s m c D cI cZ cJ A bs L xs) (hst : l.stackTraces = false) (hf : cells + 1 ≤ room_1.cells ∧ slots + 6 ≤ room_1.slots) {i : Nat} (hi : i + 5 ≤ L) {f : Nat → Int64} {g t : Nat → Nat → Int32} {n0 N M T : Nat} (hc : n0 < 512) (hR : hl_R n0 N M T g t) (kk : ∀ (f' : Nat → Int64) (t' g' : Nat → Nat → Int32) (N' M' T' : Nat), hl_R (n0 + 1) N' M' T' g' t' → hl_X p l e room_1 s m #[Value.ref bs] below meth c 7 D A (cells + 1) (slots + 6) Q (hl_LW b a cI cZ cJ o f' t' g') 1252 (hl_LS bs b a o (nI i)) []) : hl_X p l e room_1 s m #[Value.ref bs] below meth c 7 D A cells slots Q (hl_LW b a cI cZ cJ o f t g) 425 (hl_LS bs b a o (nI i)) [] := by
  have ho := hR.1
  have hoM := hl_R_okM hR
  have hu := hl_R_up hc hR
  have hR0 := hl_R_t (fun _ => 0) hR
  have e23 := hl_q_today hR
  have e16 := hl_q_bookings hR
  obtain ⟨e13, e14⟩ := hl_q_on hR
  by_cases h1 : ¬ xs (i + 1) < 0 ∧ xs (i + 1) < g 16 0
  · by_cases h3 : g 13 (xs (i + 1)).toNatClampNeg = g 23 0 ∧ g 14 (xs (i + 1)).toNatClampNeg = 0
    · have hx : (xs (i + 1)).toNatClampNeg < N := hl_idx (hl_in (nI N) (by rw [nI_toInt]; have := ho.1; omega) h1.1 (by rw [← ho.2.1]; exact h1.2))
      have hcl := hl_cnt_lt (g 14) h3.2 hx
      have hct := hR.2.2.2.2.2.2.1
      have hN := ho.1
      obtain ⟨eq, M2, hR1⟩ := hl_R_come hc hR0 h1.1 h1.2 h3.1 h3.2
      exact lw_come H hf hi (by exact ⟨rfl, rfl, Nat.le_of_ble_eq_true rfl, Nat.le_of_ble_eq_true rfl⟩) (by exact ⟨rfl, rfl, Nat.le_of_ble_eq_true rfl, Nat.le_of_ble_eq_true rfl⟩) (w_L_come_0 l D cI cZ cJ o f a g (xs (i + 1)) N M ho h1.1 h1.2 h3.1 h3.2) (c_X6_come_0 l D cI cZ cJ b t (xs (i + 1)) N M T hoM h1.1 (by rw [← e16]; exact h1.2) (by rw [← e13, ← e23]; exact h3.1) (by rw [← e14]; exact h3.2) (by omega)) (by rw [hl_23_come]; rfl) (fun _ => hl_v0 f (eq)) (kk _ _ _ _ _ _ (hR1))
    · exact lw_come H hf hi (by exact ⟨rfl, rfl, Nat.le_of_ble_eq_true rfl, Nat.le_of_ble_eq_true rfl⟩) (by exact ⟨rfl, rfl, Nat.le_of_ble_eq_true rfl, Nat.le_of_ble_eq_true rfl⟩) (w_L_come_2 l D cI cZ cJ o f a g hst (xs (i + 1)) N M ho h1.1 h1.2 h3) (c_X6_come_2 l D cI cZ cJ b t (xs (i + 1)) N M T hoM h1.1 (by rw [← e16]; exact h1.2) (by rw [← e13, ← e14, ← e23]; exact h3)) rfl (fun z => absurd z (by decide)) (kk _ _ _ _ _ _ (hl_R_t _ hu))
  · exact lw_come H hf hi (by exact ⟨rfl, rfl, Nat.le_of_ble_eq_true rfl, Nat.le_of_ble_eq_true rfl⟩) (by exact ⟨rfl, rfl, Nat.le_of_ble_eq_true rfl, Nat.le_of_ble_eq_true rfl⟩) (w_L_come_1 l D cI cZ cJ o f a g hst (xs (i + 1)) h1) (c_X6_come_1 l D cI cZ cJ b t (xs (i + 1)) N M T hoM (by rw [← e16]; exact h1)) rfl (fun z => absurd z (by decide)) (kk _ _ _ _ _ _ (hl_R_t _ hu))

set_option maxHeartbeats 4000000 in
set_option maxRecDepth 100000 in
theorem law_burn {p : Program} {l : Launch} {e : Env} {s : State} {m : MethodId} {below : List Frame} {meth : Method} {c : Code} {D : va_G} {cI cZ cJ : ClassId} {A : Nat → Prop} {cells slots : Nat} {Q : State → Prop} {bs L : Nat} {xs : Nat → Int32} {b a : Nat → Nat} {o : Nat} (H : hl_H p s m c D cI cZ cJ A bs L xs) (hst : l.stackTraces = false) (hf : cells + 1 ≤ room_1.cells ∧ slots + 6 ≤ room_1.slots) {i : Nat} (hi : i + 5 ≤ L) {f : Nat → Int64} {g t : Nat → Nat → Int32} {n0 N M T : Nat} (hc : n0 < 512) (hR : hl_R n0 N M T g t) (kk : ∀ (f' : Nat → Int64) (t' g' : Nat → Nat → Int32) (N' M' T' : Nat), hl_R (n0 + 1) N' M' T' g' t' → hl_X p l e room_1 s m #[Value.ref bs] below meth c 7 D A (cells + 1) (slots + 6) Q (hl_LW b a cI cZ cJ o f' t' g') 1252 (hl_LS bs b a o (nI i)) []) : hl_X p l e room_1 s m #[Value.ref bs] below meth c 7 D A cells slots Q (hl_LW b a cI cZ cJ o f t g) 481 (hl_LS bs b a o (nI i)) [] := by
  have ho := hR.1
  have hoM := hl_R_okM hR
  have hu := hl_R_up hc hR
  have hR0 := hl_R_t (fun _ => 0) hR
  by_cases h1 : vp_in (xs (i + 1)) 10
  · by_cases h2 : vp_in (xs (i + 2)) 4
    · by_cases h3 : ¬ xs (i + 3) < 1 ∧ xs (i + 3) ≤ 100
      · by_cases h5 : xs (i + 3) ≤ hl_it (b_X3_ofGuest g (xs (i + 1))) 0 M 0
        · have hR1 := hl_R_burn (x := xs (i + 1)) hc hR0 h2 h3.1 h3.2
          exact lw_burn H hf hi (by exact ⟨rfl, rfl, Nat.le_of_ble_eq_true rfl, Nat.le_of_ble_eq_true rfl⟩) (by exact ⟨rfl, rfl, Nat.le_of_ble_eq_true rfl, Nat.le_of_ble_eq_true rfl⟩) (w_L_burn_0 l D cI cZ cJ o f a g (xs (i + 1)) (xs (i + 2)) (xs (i + 3)) N M ho h1 h2 h3.1 h3.2 h5) (c_X6_burn_0 l D cI cZ cJ b t (xs (i + 1)) (xs (i + 2)) (xs (i + 3)) N M T hoM h1 h2 h3.1 h3.2 (by rw [← hl_q_points hR]; exact h5)) (by rw [hl_23_burn]; rfl) (fun _ => hl_v0 f (hl_q_points hR1 _)) (kk _ _ _ _ _ _ (hR1))
        · exact lw_burn H hf hi (by exact ⟨rfl, rfl, Nat.le_of_ble_eq_true rfl, Nat.le_of_ble_eq_true rfl⟩) (by exact ⟨rfl, rfl, Nat.le_of_ble_eq_true rfl, Nat.le_of_ble_eq_true rfl⟩) (w_L_burn_4 l D cI cZ cJ o f a g hst (xs (i + 1)) (xs (i + 2)) (xs (i + 3)) N M ho h1 h2 h3.1 h3.2 h5) (c_X6_burn_4 l D cI cZ cJ b t (xs (i + 1)) (xs (i + 2)) (xs (i + 3)) N M T hoM h1 h2 h3.1 h3.2 (by rw [← hl_q_points hR]; exact h5)) rfl (fun z => absurd z (by decide)) (kk _ _ _ _ _ _ (hl_R_t _ hu))
      · exact lw_burn H hf hi (by exact ⟨rfl, rfl, Nat.le_of_ble_eq_true rfl, Nat.le_of_ble_eq_true rfl⟩) (by exact ⟨rfl, rfl, Nat.le_of_ble_eq_true rfl, Nat.le_of_ble_eq_true rfl⟩) (w_L_burn_3 l D cI cZ cJ o f a g hst (xs (i + 1)) (xs (i + 2)) (xs (i + 3)) h1 h2 h3) (c_X6_burn_3 l D cI cZ cJ b t (xs (i + 1)) (xs (i + 2)) (xs (i + 3)) h1 h2 h3) rfl (fun z => absurd z (by decide)) (kk _ _ _ _ _ _ (hl_R_t _ hu))
    · exact lw_burn H hf hi (by exact ⟨rfl, rfl, Nat.le_of_ble_eq_true rfl, Nat.le_of_ble_eq_true rfl⟩) (by exact ⟨rfl, rfl, Nat.le_of_ble_eq_true rfl, Nat.le_of_ble_eq_true rfl⟩) (w_L_burn_2 l D cI cZ cJ o f a g hst (xs (i + 1)) (xs (i + 2)) (xs (i + 3)) h1 h2) (c_X6_burn_2 l D cI cZ cJ b t (xs (i + 1)) (xs (i + 2)) (xs (i + 3)) h1 h2) rfl (fun z => absurd z (by decide)) (kk _ _ _ _ _ _ (hl_R_t _ hu))
  · exact lw_burn H hf hi (by exact ⟨rfl, rfl, Nat.le_of_ble_eq_true rfl, Nat.le_of_ble_eq_true rfl⟩) (by exact ⟨rfl, rfl, Nat.le_of_ble_eq_true rfl, Nat.le_of_ble_eq_true rfl⟩) (w_L_burn_1 l D cI cZ cJ o f a g hst (xs (i + 1)) (xs (i + 2)) (xs (i + 3)) h1) (c_X6_burn_1 l D cI cZ cJ b t (xs (i + 1)) (xs (i + 2)) (xs (i + 3)) h1) rfl (fun z => absurd z (by decide)) (kk _ _ _ _ _ _ (hl_R_t _ hu))

set_option maxHeartbeats 4000000 in
set_option maxRecDepth 100000 in
theorem law_night {p : Program} {l : Launch} {e : Env} {s : State} {m : MethodId} {below : List Frame} {meth : Method} {c : Code} {D : va_G} {cI cZ cJ : ClassId} {A : Nat → Prop} {cells slots : Nat} {Q : State → Prop} {bs L : Nat} {xs : Nat → Int32} {b a : Nat → Nat} {o : Nat} (H : hl_H p s m c D cI cZ cJ A bs L xs) (hst : l.stackTraces = false) (hf : cells + 1 ≤ room_1.cells ∧ slots + 6 ≤ room_1.slots) {i : Nat} (hi : i + 5 ≤ L) {f : Nat → Int64} {g t : Nat → Nat → Int32} {n0 N M T : Nat} (hc : n0 < 512) (hR : hl_R n0 N M T g t) (kk : ∀ (f' : Nat → Int64) (t' g' : Nat → Nat → Int32) (N' M' T' : Nat), hl_R (n0 + 1) N' M' T' g' t' → hl_X p l e room_1 s m #[Value.ref bs] below meth c 7 D A (cells + 1) (slots + 6) Q (hl_LW b a cI cZ cJ o f' t' g') 1252 (hl_LS bs b a o (nI i)) []) : hl_X p l e room_1 s m #[Value.ref bs] below meth c 7 D A cells slots Q (hl_LW b a cI cZ cJ o f t g) 561 (hl_LS bs b a o (nI i)) [] := by
  have ho := hR.1
  have hoM := hl_R_okM hR
  have hu := hl_R_up hc hR
  have hR0 := hl_R_t (fun _ => 0) hR
  have e23 := hl_q_today hR
  have tt := hR.2.1.2
  have tl := hR.2.1.1
  by_cases hT : T < 300
  · by_cases hb : t 6 0 = 0
    · obtain ⟨eq, hR1⟩ := hl_R_night hc hR0 hT
      have h1 : g 23 0 < 300 := by rw [tt]; exact nI_lt hT (by decide)
      have h2 : ¬ t 8 0 = 300 := by rw [← e23, tt, show (300 : Int32) = nI 300 by decide, nI_eq (by omega) (by omega)]; omega
      exact lw_night H hf hi (by exact ⟨rfl, rfl, Nat.le_of_ble_eq_true rfl, Nat.le_of_ble_eq_true rfl⟩) (by exact ⟨rfl, rfl, Nat.le_of_ble_eq_true rfl, Nat.le_of_ble_eq_true rfl⟩) (w_L_night_0 l D cI cZ cJ o f a g N M ho h1) (c_X6_night_0 l D cI cZ cJ b t N M T hoM h2 hb) (by rw [hl_23_night]; rfl) (fun _ => hl_v0 f (eq)) (kk _ _ _ _ _ _ (hR1))
    · obtain ⟨eq, hR1⟩ := hl_R_night hc hR0 hT
      have h1 : g 23 0 < 300 := by rw [tt]; exact nI_lt hT (by decide)
      have h2 : ¬ t 8 0 = 300 := by rw [← e23, tt, show (300 : Int32) = nI 300 by decide, nI_eq (by omega) (by omega)]; omega
      exact lw_night H hf hi (by exact ⟨rfl, rfl, Nat.le_of_ble_eq_true rfl, Nat.le_of_ble_eq_true rfl⟩) (by exact ⟨rfl, rfl, Nat.le_of_ble_eq_true rfl, Nat.le_of_ble_eq_true rfl⟩) (w_L_night_0 l D cI cZ cJ o f a g N M ho h1) (c_X6_night_b l D cI cZ cJ b t N M T hoM h2 hb) (by rw [hl_23_night]; rfl) (fun _ => hl_v0 f (eq)) (kk _ _ _ _ _ _ (hR1))
  · have hT8 : T = 300 := by omega
    have h6 : g 23 0 = 300 := by rw [tt, hT8]; decide
    exact lw_night H hf hi (by exact ⟨rfl, rfl, Nat.le_of_ble_eq_true rfl, Nat.le_of_ble_eq_true rfl⟩) (by exact ⟨rfl, rfl, Nat.le_of_ble_eq_true rfl, Nat.le_of_ble_eq_true rfl⟩) (w_L_night_1 l D cI cZ cJ o f a g hst (by rw [h6]; decide)) (c_X6_night_1 l D cI cZ cJ b t (by rw [← e23]; exact h6)) rfl (fun z => absurd z (by decide)) (kk _ _ _ _ _ _ (hl_R_t _ hu))

set_option maxHeartbeats 4000000 in
set_option maxRecDepth 100000 in
theorem law_free {p : Program} {l : Launch} {e : Env} {s : State} {m : MethodId} {below : List Frame} {meth : Method} {c : Code} {D : va_G} {cI cZ cJ : ClassId} {A : Nat → Prop} {cells slots : Nat} {Q : State → Prop} {bs L : Nat} {xs : Nat → Int32} {b a : Nat → Nat} {o : Nat} (H : hl_H p s m c D cI cZ cJ A bs L xs) (hst : l.stackTraces = false) (hf : cells + 1 ≤ room_1.cells ∧ slots + 6 ≤ room_1.slots) {i : Nat} (hi : i + 5 ≤ L) {f : Nat → Int64} {g t : Nat → Nat → Int32} {n0 N M T : Nat} (hc : n0 < 512) (hR : hl_R n0 N M T g t) (kk : ∀ (f' : Nat → Int64) (t' g' : Nat → Nat → Int32) (N' M' T' : Nat), hl_R (n0 + 1) N' M' T' g' t' → hl_X p l e room_1 s m #[Value.ref bs] below meth c 7 D A (cells + 1) (slots + 6) Q (hl_LW b a cI cZ cJ o f' t' g') 1252 (hl_LS bs b a o (nI i)) []) : hl_X p l e room_1 s m #[Value.ref bs] below meth c 7 D A cells slots Q (hl_LW b a cI cZ cJ o f t g) 644 (hl_LS bs b a o (nI i)) [] := by
  have ho := hR.1
  have hoM := hl_R_okM hR
  have hu := hl_R_up hc hR
  have hR0 := hl_R_t (fun _ => 0) hR
  by_cases h1 : vp_in (xs (i + 1)) 4
  · by_cases h2 : vp_in (xs (i + 2)) 2
    · exact lw_free H hf hi (by exact ⟨rfl, rfl, Nat.le_of_ble_eq_true rfl, Nat.le_of_ble_eq_true rfl⟩) (by exact ⟨rfl, rfl, Nat.le_of_ble_eq_true rfl, Nat.le_of_ble_eq_true rfl⟩) (w_L_free_0 l D cI cZ cJ o f a g (xs (i + 1)) (xs (i + 2)) h1 h2) (c_X6_free_0 l D cI cZ cJ b t (xs (i + 1)) (xs (i + 2)) h1 h2) rfl (fun _ => hl_v0 f (hl_q_free hR _ _)) (kk _ _ _ _ _ _ (hl_R_t _ hu))
    · exact lw_free H hf hi (by exact ⟨rfl, rfl, Nat.le_of_ble_eq_true rfl, Nat.le_of_ble_eq_true rfl⟩) (by exact ⟨rfl, rfl, Nat.le_of_ble_eq_true rfl, Nat.le_of_ble_eq_true rfl⟩) (w_L_free_2 l D cI cZ cJ o f a g hst (xs (i + 1)) (xs (i + 2)) h1 h2) (c_X6_free_2 l D cI cZ cJ b t (xs (i + 1)) (xs (i + 2)) h1 h2) rfl (fun z => absurd z (by decide)) (kk _ _ _ _ _ _ (hl_R_t _ hu))
  · exact lw_free H hf hi (by exact ⟨rfl, rfl, Nat.le_of_ble_eq_true rfl, Nat.le_of_ble_eq_true rfl⟩) (by exact ⟨rfl, rfl, Nat.le_of_ble_eq_true rfl, Nat.le_of_ble_eq_true rfl⟩) (w_L_free_1 l D cI cZ cJ o f a g hst (xs (i + 1)) (xs (i + 2)) h1) (c_X6_free_1 l D cI cZ cJ b t (xs (i + 1)) (xs (i + 2)) h1) rfl (fun z => absurd z (by decide)) (kk _ _ _ _ _ _ (hl_R_t _ hu))

set_option maxHeartbeats 4000000 in
set_option maxRecDepth 100000 in
theorem law_taken {p : Program} {l : Launch} {e : Env} {s : State} {m : MethodId} {below : List Frame} {meth : Method} {c : Code} {D : va_G} {cI cZ cJ : ClassId} {A : Nat → Prop} {cells slots : Nat} {Q : State → Prop} {bs L : Nat} {xs : Nat → Int32} {b a : Nat → Nat} {o : Nat} (H : hl_H p s m c D cI cZ cJ A bs L xs) (hst : l.stackTraces = false) (hf : cells + 1 ≤ room_1.cells ∧ slots + 6 ≤ room_1.slots) {i : Nat} (hi : i + 5 ≤ L) {f : Nat → Int64} {g t : Nat → Nat → Int32} {n0 N M T : Nat} (hc : n0 < 512) (hR : hl_R n0 N M T g t) (kk : ∀ (f' : Nat → Int64) (t' g' : Nat → Nat → Int32) (N' M' T' : Nat), hl_R (n0 + 1) N' M' T' g' t' → hl_X p l e room_1 s m #[Value.ref bs] below meth c 7 D A (cells + 1) (slots + 6) Q (hl_LW b a cI cZ cJ o f' t' g') 1252 (hl_LS bs b a o (nI i)) []) : hl_X p l e room_1 s m #[Value.ref bs] below meth c 7 D A cells slots Q (hl_LW b a cI cZ cJ o f t g) 712 (hl_LS bs b a o (nI i)) [] := by
  have ho := hR.1
  have hoM := hl_R_okM hR
  have hu := hl_R_up hc hR
  have hR0 := hl_R_t (fun _ => 0) hR
  by_cases h1 : vp_in (xs (i + 1)) 4
  · by_cases h2 : vp_in (xs (i + 2)) 2
    · exact lw_taken H hf hi (by exact ⟨rfl, rfl, Nat.le_of_ble_eq_true rfl, Nat.le_of_ble_eq_true rfl⟩) (by exact ⟨rfl, rfl, Nat.le_of_ble_eq_true rfl, Nat.le_of_ble_eq_true rfl⟩) (w_L_taken_0 l D cI cZ cJ o f a g (xs (i + 1)) (xs (i + 2)) h1 h2) (c_X6_taken_0 l D cI cZ cJ b t (xs (i + 1)) (xs (i + 2)) h1 h2) rfl (fun _ => hl_v0 f (hl_q_taken hR _ _)) (kk _ _ _ _ _ _ (hl_R_t _ hu))
    · exact lw_taken H hf hi (by exact ⟨rfl, rfl, Nat.le_of_ble_eq_true rfl, Nat.le_of_ble_eq_true rfl⟩) (by exact ⟨rfl, rfl, Nat.le_of_ble_eq_true rfl, Nat.le_of_ble_eq_true rfl⟩) (w_L_taken_2 l D cI cZ cJ o f a g hst (xs (i + 1)) (xs (i + 2)) h1 h2) (c_X6_taken_2 l D cI cZ cJ b t (xs (i + 1)) (xs (i + 2)) h1 h2) rfl (fun z => absurd z (by decide)) (kk _ _ _ _ _ _ (hl_R_t _ hu))
  · exact lw_taken H hf hi (by exact ⟨rfl, rfl, Nat.le_of_ble_eq_true rfl, Nat.le_of_ble_eq_true rfl⟩) (by exact ⟨rfl, rfl, Nat.le_of_ble_eq_true rfl, Nat.le_of_ble_eq_true rfl⟩) (w_L_taken_1 l D cI cZ cJ o f a g hst (xs (i + 1)) (xs (i + 2)) h1) (c_X6_taken_1 l D cI cZ cJ b t (xs (i + 1)) (xs (i + 2)) h1) rfl (fun z => absurd z (by decide)) (kk _ _ _ _ _ _ (hl_R_t _ hu))

set_option maxHeartbeats 4000000 in
set_option maxRecDepth 100000 in
theorem law_takenByBookings {p : Program} {l : Launch} {e : Env} {s : State} {m : MethodId} {below : List Frame} {meth : Method} {c : Code} {D : va_G} {cI cZ cJ : ClassId} {A : Nat → Prop} {cells slots : Nat} {Q : State → Prop} {bs L : Nat} {xs : Nat → Int32} {b a : Nat → Nat} {o : Nat} (H : hl_H p s m c D cI cZ cJ A bs L xs) (hst : l.stackTraces = false) (hf : cells + 1 ≤ room_1.cells ∧ slots + 6 ≤ room_1.slots) {i : Nat} (hi : i + 5 ≤ L) {f : Nat → Int64} {g t : Nat → Nat → Int32} {n0 N M T : Nat} (hc : n0 < 512) (hR : hl_R n0 N M T g t) (kk : ∀ (f' : Nat → Int64) (t' g' : Nat → Nat → Int32) (N' M' T' : Nat), hl_R (n0 + 1) N' M' T' g' t' → hl_X p l e room_1 s m #[Value.ref bs] below meth c 7 D A (cells + 1) (slots + 6) Q (hl_LW b a cI cZ cJ o f' t' g') 1252 (hl_LS bs b a o (nI i)) []) : hl_X p l e room_1 s m #[Value.ref bs] below meth c 7 D A cells slots Q (hl_LW b a cI cZ cJ o f t g) 780 (hl_LS bs b a o (nI i)) [] := by
  have ho := hR.1
  have hoM := hl_R_okM hR
  have hu := hl_R_up hc hR
  have hR0 := hl_R_t (fun _ => 0) hR
  by_cases h1 : vp_in (xs (i + 1)) 4
  · by_cases h2 : vp_in (xs (i + 2)) 2
    · exact lw_takenByBookings H hf hi (by exact ⟨rfl, rfl, Nat.le_of_ble_eq_true rfl, Nat.le_of_ble_eq_true rfl⟩) (by exact ⟨rfl, rfl, Nat.le_of_ble_eq_true rfl, Nat.le_of_ble_eq_true rfl⟩) (w_L_takenByBookings_0 l D cI cZ cJ o f a g (xs (i + 1)) (xs (i + 2)) N M ho h1 h2) (c_X6_takenByBookings_0 l D cI cZ cJ b t (xs (i + 1)) (xs (i + 2)) N M T hoM h1 h2) rfl (fun _ => hl_v0 f (hl_q_tbb hR0 _ _)) (kk _ _ _ _ _ _ (hl_R_t _ hu))
    · exact lw_takenByBookings H hf hi (by exact ⟨rfl, rfl, Nat.le_of_ble_eq_true rfl, Nat.le_of_ble_eq_true rfl⟩) (by exact ⟨rfl, rfl, Nat.le_of_ble_eq_true rfl, Nat.le_of_ble_eq_true rfl⟩) (w_L_takenByBookings_2 l D cI cZ cJ o f a g hst (xs (i + 1)) (xs (i + 2)) h1 h2) (c_X6_takenByBookings_2 l D cI cZ cJ b t (xs (i + 1)) (xs (i + 2)) h1 h2) rfl (fun z => absurd z (by decide)) (kk _ _ _ _ _ _ (hl_R_t _ hu))
  · exact lw_takenByBookings H hf hi (by exact ⟨rfl, rfl, Nat.le_of_ble_eq_true rfl, Nat.le_of_ble_eq_true rfl⟩) (by exact ⟨rfl, rfl, Nat.le_of_ble_eq_true rfl, Nat.le_of_ble_eq_true rfl⟩) (w_L_takenByBookings_1 l D cI cZ cJ o f a g hst (xs (i + 1)) (xs (i + 2)) h1) (c_X6_takenByBookings_1 l D cI cZ cJ b t (xs (i + 1)) (xs (i + 2)) h1) rfl (fun z => absurd z (by decide)) (kk _ _ _ _ _ _ (hl_R_t _ hu))

set_option maxHeartbeats 4000000 in
set_option maxRecDepth 100000 in
theorem law_owes {p : Program} {l : Launch} {e : Env} {s : State} {m : MethodId} {below : List Frame} {meth : Method} {c : Code} {D : va_G} {cI cZ cJ : ClassId} {A : Nat → Prop} {cells slots : Nat} {Q : State → Prop} {bs L : Nat} {xs : Nat → Int32} {b a : Nat → Nat} {o : Nat} (H : hl_H p s m c D cI cZ cJ A bs L xs) (hst : l.stackTraces = false) (hf : cells + 1 ≤ room_1.cells ∧ slots + 6 ≤ room_1.slots) {i : Nat} (hi : i + 5 ≤ L) {f : Nat → Int64} {g t : Nat → Nat → Int32} {n0 N M T : Nat} (hc : n0 < 512) (hR : hl_R n0 N M T g t) (kk : ∀ (f' : Nat → Int64) (t' g' : Nat → Nat → Int32) (N' M' T' : Nat), hl_R (n0 + 1) N' M' T' g' t' → hl_X p l e room_1 s m #[Value.ref bs] below meth c 7 D A (cells + 1) (slots + 6) Q (hl_LW b a cI cZ cJ o f' t' g') 1252 (hl_LS bs b a o (nI i)) []) : hl_X p l e room_1 s m #[Value.ref bs] below meth c 7 D A cells slots Q (hl_LW b a cI cZ cJ o f t g) 1128 (hl_LS bs b a o (nI i)) [] := by
  have ho := hR.1
  have hoM := hl_R_okM hR
  have hu := hl_R_up hc hR
  have hR0 := hl_R_t (fun _ => 0) hR
  by_cases h1 : vp_in (xs (i + 1)) 4
  · by_cases h2 : vp_in (xs (i + 2)) 4
    · exact lw_owes H hf hi (by exact ⟨rfl, rfl, Nat.le_of_ble_eq_true rfl, Nat.le_of_ble_eq_true rfl⟩) (by exact ⟨rfl, rfl, Nat.le_of_ble_eq_true rfl, Nat.le_of_ble_eq_true rfl⟩) (w_L_owes_0 l D cI cZ cJ o f a g (xs (i + 1)) (xs (i + 2)) h1 h2) (c_X6_owes_0 l D cI cZ cJ b t (xs (i + 1)) (xs (i + 2)) h1 h2) rfl (fun _ => hl_v0 f (hl_q_owes hR0 h1 h2)) (kk _ _ _ _ _ _ (hl_R_t _ hu))
    · exact lw_owes H hf hi (by exact ⟨rfl, rfl, Nat.le_of_ble_eq_true rfl, Nat.le_of_ble_eq_true rfl⟩) (by exact ⟨rfl, rfl, Nat.le_of_ble_eq_true rfl, Nat.le_of_ble_eq_true rfl⟩) (w_L_owes_2 l D cI cZ cJ o f a g hst (xs (i + 1)) (xs (i + 2)) h1 h2) (c_X6_owes_2 l D cI cZ cJ b t (xs (i + 1)) (xs (i + 2)) h1 h2) rfl (fun z => absurd z (by decide)) (kk _ _ _ _ _ _ (hl_R_t _ hu))
  · exact lw_owes H hf hi (by exact ⟨rfl, rfl, Nat.le_of_ble_eq_true rfl, Nat.le_of_ble_eq_true rfl⟩) (by exact ⟨rfl, rfl, Nat.le_of_ble_eq_true rfl, Nat.le_of_ble_eq_true rfl⟩) (w_L_owes_1 l D cI cZ cJ o f a g hst (xs (i + 1)) (xs (i + 2)) h1) (c_X6_owes_1 l D cI cZ cJ b t (xs (i + 1)) (xs (i + 2)) h1) rfl (fun z => absurd z (by decide)) (kk _ _ _ _ _ _ (hl_R_t _ hu))

set_option maxHeartbeats 4000000 in
set_option maxRecDepth 100000 in
theorem law_extra {p : Program} {l : Launch} {e : Env} {s : State} {m : MethodId} {below : List Frame} {meth : Method} {c : Code} {D : va_G} {cI cZ cJ : ClassId} {A : Nat → Prop} {cells slots : Nat} {Q : State → Prop} {bs L : Nat} {xs : Nat → Int32} {b a : Nat → Nat} {o : Nat} (H : hl_H p s m c D cI cZ cJ A bs L xs) (hst : l.stackTraces = false) (hf : cells + 1 ≤ room_1.cells ∧ slots + 6 ≤ room_1.slots) {i : Nat} (hi : i + 5 ≤ L) {f : Nat → Int64} {g t : Nat → Nat → Int32} {n0 N M T : Nat} (hc : n0 < 512) (hR : hl_R n0 N M T g t) (kk : ∀ (f' : Nat → Int64) (t' g' : Nat → Nat → Int32) (N' M' T' : Nat), hl_R (n0 + 1) N' M' T' g' t' → hl_X p l e room_1 s m #[Value.ref bs] below meth c 7 D A (cells + 1) (slots + 6) Q (hl_LW b a cI cZ cJ o f' t' g') 1252 (hl_LS bs b a o (nI i)) []) : hl_X p l e room_1 s m #[Value.ref bs] below meth c 7 D A cells slots Q (hl_LW b a cI cZ cJ o f t g) 848 (hl_LS bs b a o (nI i)) [] := by
  have ho := hR.1
  have hoM := hl_R_okM hR
  have hu := hl_R_up hc hR
  have hR0 := hl_R_t (fun _ => 0) hR
  by_cases h1 : vp_in (xs (i + 1)) 4
  · exact lw_extra H hf hi (by exact ⟨rfl, rfl, Nat.le_of_ble_eq_true rfl, Nat.le_of_ble_eq_true rfl⟩) (by exact ⟨rfl, rfl, Nat.le_of_ble_eq_true rfl, Nat.le_of_ble_eq_true rfl⟩) (w_L_extra_0 l D cI cZ cJ o f a g (xs (i + 1)) N M ho h1) (c_X6_extra_0 l D cI cZ cJ b t (xs (i + 1)) N M T hoM h1) rfl (fun _ => hl_v0 f (hl_q_extra hR0 h1)) (kk _ _ _ _ _ _ (hl_R_t _ hu))
  · exact lw_extra H hf hi (by exact ⟨rfl, rfl, Nat.le_of_ble_eq_true rfl, Nat.le_of_ble_eq_true rfl⟩) (by exact ⟨rfl, rfl, Nat.le_of_ble_eq_true rfl, Nat.le_of_ble_eq_true rfl⟩) (w_L_extra_1 l D cI cZ cJ o f a g hst (xs (i + 1)) h1) (c_X6_extra_1 l D cI cZ cJ b t (xs (i + 1)) h1) rfl (fun z => absurd z (by decide)) (kk _ _ _ _ _ _ (hl_R_t _ hu))

set_option maxHeartbeats 4000000 in
set_option maxRecDepth 100000 in
theorem law_clean {p : Program} {l : Launch} {e : Env} {s : State} {m : MethodId} {below : List Frame} {meth : Method} {c : Code} {D : va_G} {cI cZ cJ : ClassId} {A : Nat → Prop} {cells slots : Nat} {Q : State → Prop} {bs L : Nat} {xs : Nat → Int32} {b a : Nat → Nat} {o : Nat} (H : hl_H p s m c D cI cZ cJ A bs L xs) (hst : l.stackTraces = false) (hf : cells + 1 ≤ room_1.cells ∧ slots + 6 ≤ room_1.slots) {i : Nat} (hi : i + 5 ≤ L) {f : Nat → Int64} {g t : Nat → Nat → Int32} {n0 N M T : Nat} (hc : n0 < 512) (hR : hl_R n0 N M T g t) (kk : ∀ (f' : Nat → Int64) (t' g' : Nat → Nat → Int32) (N' M' T' : Nat), hl_R (n0 + 1) N' M' T' g' t' → hl_X p l e room_1 s m #[Value.ref bs] below meth c 7 D A (cells + 1) (slots + 6) Q (hl_LW b a cI cZ cJ o f' t' g') 1252 (hl_LS bs b a o (nI i)) []) : hl_X p l e room_1 s m #[Value.ref bs] below meth c 7 D A cells slots Q (hl_LW b a cI cZ cJ o f t g) 904 (hl_LS bs b a o (nI i)) [] := by
  have ho := hR.1
  have hoM := hl_R_okM hR
  have hu := hl_R_up hc hR
  have hR0 := hl_R_t (fun _ => 0) hR
  by_cases h1 : vp_in (xs (i + 1)) 4
  · exact lw_clean H hf hi (by exact ⟨rfl, rfl, Nat.le_of_ble_eq_true rfl, Nat.le_of_ble_eq_true rfl⟩) (by exact ⟨rfl, rfl, Nat.le_of_ble_eq_true rfl, Nat.le_of_ble_eq_true rfl⟩) (w_L_clean_0 l D cI cZ cJ o f a g (xs (i + 1)) h1) (c_X6_clean_0 l D cI cZ cJ b t (xs (i + 1)) h1) rfl (fun _ => hl_v0 f (hl_q_clean hR _)) (kk _ _ _ _ _ _ (hl_R_t _ hu))
  · exact lw_clean H hf hi (by exact ⟨rfl, rfl, Nat.le_of_ble_eq_true rfl, Nat.le_of_ble_eq_true rfl⟩) (by exact ⟨rfl, rfl, Nat.le_of_ble_eq_true rfl, Nat.le_of_ble_eq_true rfl⟩) (w_L_clean_1 l D cI cZ cJ o f a g hst (xs (i + 1)) h1) (c_X6_clean_1 l D cI cZ cJ b t (xs (i + 1)) h1) rfl (fun z => absurd z (by decide)) (kk _ _ _ _ _ _ (hl_R_t _ hu))

set_option maxHeartbeats 4000000 in
set_option maxRecDepth 100000 in
theorem law_away {p : Program} {l : Launch} {e : Env} {s : State} {m : MethodId} {below : List Frame} {meth : Method} {c : Code} {D : va_G} {cI cZ cJ : ClassId} {A : Nat → Prop} {cells slots : Nat} {Q : State → Prop} {bs L : Nat} {xs : Nat → Int32} {b a : Nat → Nat} {o : Nat} (H : hl_H p s m c D cI cZ cJ A bs L xs) (hst : l.stackTraces = false) (hf : cells + 1 ≤ room_1.cells ∧ slots + 6 ≤ room_1.slots) {i : Nat} (hi : i + 5 ≤ L) {f : Nat → Int64} {g t : Nat → Nat → Int32} {n0 N M T : Nat} (hc : n0 < 512) (hR : hl_R n0 N M T g t) (kk : ∀ (f' : Nat → Int64) (t' g' : Nat → Nat → Int32) (N' M' T' : Nat), hl_R (n0 + 1) N' M' T' g' t' → hl_X p l e room_1 s m #[Value.ref bs] below meth c 7 D A (cells + 1) (slots + 6) Q (hl_LW b a cI cZ cJ o f' t' g') 1252 (hl_LS bs b a o (nI i)) []) : hl_X p l e room_1 s m #[Value.ref bs] below meth c 7 D A cells slots Q (hl_LW b a cI cZ cJ o f t g) 960 (hl_LS bs b a o (nI i)) [] := by
  have ho := hR.1
  have hoM := hl_R_okM hR
  have hu := hl_R_up hc hR
  have hR0 := hl_R_t (fun _ => 0) hR
  by_cases h1 : vp_in (xs (i + 1)) 4
  · exact lw_away H hf hi (by exact ⟨rfl, rfl, Nat.le_of_ble_eq_true rfl, Nat.le_of_ble_eq_true rfl⟩) (by exact ⟨rfl, rfl, Nat.le_of_ble_eq_true rfl, Nat.le_of_ble_eq_true rfl⟩) (w_L_away_0 l D cI cZ cJ o f a g (xs (i + 1)) h1) (c_X6_away_0 l D cI cZ cJ b t (xs (i + 1)) N M T hoM h1) rfl (fun _ => hl_v0 f (hl_q_away hR0 h1)) (kk _ _ _ _ _ _ (hl_R_t _ hu))
  · exact lw_away H hf hi (by exact ⟨rfl, rfl, Nat.le_of_ble_eq_true rfl, Nat.le_of_ble_eq_true rfl⟩) (by exact ⟨rfl, rfl, Nat.le_of_ble_eq_true rfl, Nat.le_of_ble_eq_true rfl⟩) (w_L_away_1 l D cI cZ cJ o f a g hst (xs (i + 1)) h1) (c_X6_away_1 l D cI cZ cJ b t (xs (i + 1)) h1) rfl (fun z => absurd z (by decide)) (kk _ _ _ _ _ _ (hl_R_t _ hu))

set_option maxHeartbeats 4000000 in
set_option maxRecDepth 100000 in
theorem law_purse {p : Program} {l : Launch} {e : Env} {s : State} {m : MethodId} {below : List Frame} {meth : Method} {c : Code} {D : va_G} {cI cZ cJ : ClassId} {A : Nat → Prop} {cells slots : Nat} {Q : State → Prop} {bs L : Nat} {xs : Nat → Int32} {b a : Nat → Nat} {o : Nat} (H : hl_H p s m c D cI cZ cJ A bs L xs) (hst : l.stackTraces = false) (hf : cells + 1 ≤ room_1.cells ∧ slots + 6 ≤ room_1.slots) {i : Nat} (hi : i + 5 ≤ L) {f : Nat → Int64} {g t : Nat → Nat → Int32} {n0 N M T : Nat} (hc : n0 < 512) (hR : hl_R n0 N M T g t) (kk : ∀ (f' : Nat → Int64) (t' g' : Nat → Nat → Int32) (N' M' T' : Nat), hl_R (n0 + 1) N' M' T' g' t' → hl_X p l e room_1 s m #[Value.ref bs] below meth c 7 D A (cells + 1) (slots + 6) Q (hl_LW b a cI cZ cJ o f' t' g') 1252 (hl_LS bs b a o (nI i)) []) : hl_X p l e room_1 s m #[Value.ref bs] below meth c 7 D A cells slots Q (hl_LW b a cI cZ cJ o f t g) 1196 (hl_LS bs b a o (nI i)) [] := by
  have ho := hR.1
  have hoM := hl_R_okM hR
  have hu := hl_R_up hc hR
  have hR0 := hl_R_t (fun _ => 0) hR
  by_cases h1 : vp_in (xs (i + 1)) 4
  · exact lw_purse H hf hi (by exact ⟨rfl, rfl, Nat.le_of_ble_eq_true rfl, Nat.le_of_ble_eq_true rfl⟩) (by exact ⟨rfl, rfl, Nat.le_of_ble_eq_true rfl, Nat.le_of_ble_eq_true rfl⟩) (w_L_purse_0 l D cI cZ cJ o f a g (xs (i + 1)) h1) (c_X6_purse_0 l D cI cZ cJ b t (xs (i + 1)) h1) rfl (fun _ => hl_v0 f (hl_q_purse hR _)) (kk _ _ _ _ _ _ (hl_R_t _ hu))
  · exact lw_purse H hf hi (by exact ⟨rfl, rfl, Nat.le_of_ble_eq_true rfl, Nat.le_of_ble_eq_true rfl⟩) (by exact ⟨rfl, rfl, Nat.le_of_ble_eq_true rfl, Nat.le_of_ble_eq_true rfl⟩) (w_L_purse_1 l D cI cZ cJ o f a g hst (xs (i + 1)) h1) (c_X6_purse_1 l D cI cZ cJ b t (xs (i + 1)) h1) rfl (fun z => absurd z (by decide)) (kk _ _ _ _ _ _ (hl_R_t _ hu))

set_option maxHeartbeats 4000000 in
set_option maxRecDepth 100000 in
theorem law_points {p : Program} {l : Launch} {e : Env} {s : State} {m : MethodId} {below : List Frame} {meth : Method} {c : Code} {D : va_G} {cI cZ cJ : ClassId} {A : Nat → Prop} {cells slots : Nat} {Q : State → Prop} {bs L : Nat} {xs : Nat → Int32} {b a : Nat → Nat} {o : Nat} (H : hl_H p s m c D cI cZ cJ A bs L xs) (hst : l.stackTraces = false) (hf : cells + 1 ≤ room_1.cells ∧ slots + 6 ≤ room_1.slots) {i : Nat} (hi : i + 5 ≤ L) {f : Nat → Int64} {g t : Nat → Nat → Int32} {n0 N M T : Nat} (hc : n0 < 512) (hR : hl_R n0 N M T g t) (kk : ∀ (f' : Nat → Int64) (t' g' : Nat → Nat → Int32) (N' M' T' : Nat), hl_R (n0 + 1) N' M' T' g' t' → hl_X p l e room_1 s m #[Value.ref bs] below meth c 7 D A (cells + 1) (slots + 6) Q (hl_LW b a cI cZ cJ o f' t' g') 1252 (hl_LS bs b a o (nI i)) []) : hl_X p l e room_1 s m #[Value.ref bs] below meth c 7 D A cells slots Q (hl_LW b a cI cZ cJ o f t g) 1072 (hl_LS bs b a o (nI i)) [] := by
  have ho := hR.1
  have hoM := hl_R_okM hR
  have hu := hl_R_up hc hR
  have hR0 := hl_R_t (fun _ => 0) hR
  by_cases h1 : vp_in (xs (i + 1)) 10
  · exact lw_points H hf hi (by exact ⟨rfl, rfl, Nat.le_of_ble_eq_true rfl, Nat.le_of_ble_eq_true rfl⟩) (by exact ⟨rfl, rfl, Nat.le_of_ble_eq_true rfl, Nat.le_of_ble_eq_true rfl⟩) (w_L_points_0 l D cI cZ cJ o f a g (xs (i + 1)) N M ho h1) (c_X6_points_0 l D cI cZ cJ b t (xs (i + 1)) N M T hoM h1) rfl (fun _ => hl_v0 f (hl_q_points hR0 _)) (kk _ _ _ _ _ _ (hl_R_t _ hu))
  · exact lw_points H hf hi (by exact ⟨rfl, rfl, Nat.le_of_ble_eq_true rfl, Nat.le_of_ble_eq_true rfl⟩) (by exact ⟨rfl, rfl, Nat.le_of_ble_eq_true rfl, Nat.le_of_ble_eq_true rfl⟩) (w_L_points_1 l D cI cZ cJ o f a g hst (xs (i + 1)) h1) (c_X6_points_1 l D cI cZ cJ b t (xs (i + 1)) h1) rfl (fun z => absurd z (by decide)) (kk _ _ _ _ _ _ (hl_R_t _ hu))

set_option maxHeartbeats 4000000 in
set_option maxRecDepth 100000 in
theorem law_sleeps {p : Program} {l : Launch} {e : Env} {s : State} {m : MethodId} {below : List Frame} {meth : Method} {c : Code} {D : va_G} {cI cZ cJ : ClassId} {A : Nat → Prop} {cells slots : Nat} {Q : State → Prop} {bs L : Nat} {xs : Nat → Int32} {b a : Nat → Nat} {o : Nat} (H : hl_H p s m c D cI cZ cJ A bs L xs) (hst : l.stackTraces = false) (hf : cells + 1 ≤ room_1.cells ∧ slots + 6 ≤ room_1.slots) {i : Nat} (hi : i + 5 ≤ L) {f : Nat → Int64} {g t : Nat → Nat → Int32} {n0 N M T : Nat} (hc : n0 < 512) (hR : hl_R n0 N M T g t) (kk : ∀ (f' : Nat → Int64) (t' g' : Nat → Nat → Int32) (N' M' T' : Nat), hl_R (n0 + 1) N' M' T' g' t' → hl_X p l e room_1 s m #[Value.ref bs] below meth c 7 D A (cells + 1) (slots + 6) Q (hl_LW b a cI cZ cJ o f' t' g') 1252 (hl_LS bs b a o (nI i)) []) : hl_X p l e room_1 s m #[Value.ref bs] below meth c 7 D A cells slots Q (hl_LW b a cI cZ cJ o f t g) 1016 (hl_LS bs b a o (nI i)) [] := by
  have ho := hR.1
  have hoM := hl_R_okM hR
  have hu := hl_R_up hc hR
  have hR0 := hl_R_t (fun _ => 0) hR
  have e16 := hl_q_bookings hR
  by_cases h1 : ¬ xs (i + 1) < 0 ∧ xs (i + 1) < g 16 0
  · exact lw_sleeps H hf hi (by exact ⟨rfl, rfl, Nat.le_of_ble_eq_true rfl, Nat.le_of_ble_eq_true rfl⟩) (by exact ⟨rfl, rfl, Nat.le_of_ble_eq_true rfl, Nat.le_of_ble_eq_true rfl⟩) (w_L_sleeps_0 l D cI cZ cJ o f a g (xs (i + 1)) N M ho h1.1 h1.2) (c_X6_sleeps_0 l D cI cZ cJ b t (xs (i + 1)) N M T hoM h1.1 (by rw [← e16]; exact h1.2)) rfl (fun _ => hl_v0 f (hl_q_sleeps hR _)) (kk _ _ _ _ _ _ (hl_R_t _ hu))
  · exact lw_sleeps H hf hi (by exact ⟨rfl, rfl, Nat.le_of_ble_eq_true rfl, Nat.le_of_ble_eq_true rfl⟩) (by exact ⟨rfl, rfl, Nat.le_of_ble_eq_true rfl, Nat.le_of_ble_eq_true rfl⟩) (w_L_sleeps_1 l D cI cZ cJ o f a g hst (xs (i + 1)) h1) (c_X6_sleeps_1 l D cI cZ cJ b t (xs (i + 1)) N M T hoM (by rw [← e16]; exact h1)) rfl (fun z => absurd z (by decide)) (kk _ _ _ _ _ _ (hl_R_t _ hu))

set_option maxHeartbeats 4000000 in
set_option maxRecDepth 100000 in
theorem law_settle {p : Program} {l : Launch} {e : Env} {s : State} {m : MethodId} {below : List Frame} {meth : Method} {c : Code} {D : va_G} {cI cZ cJ : ClassId} {A : Nat → Prop} {cells slots : Nat} {Q : State → Prop} {bs L : Nat} {xs : Nat → Int32} {b a : Nat → Nat} {o : Nat} (H : hl_H p s m c D cI cZ cJ A bs L xs) (hst : l.stackTraces = false) (hf : cells + 1 ≤ room_1.cells ∧ slots + 6 ≤ room_1.slots) {i : Nat} (hi : i + 5 ≤ L) {f : Nat → Int64} {g t : Nat → Nat → Int32} {n0 N M T : Nat} (hc : n0 < 512) (hR : hl_R n0 N M T g t) (kk : ∀ (f' : Nat → Int64) (t' g' : Nat → Nat → Int32) (N' M' T' : Nat), hl_R (n0 + 1) N' M' T' g' t' → hl_X p l e room_1 s m #[Value.ref bs] below meth c 7 D A (cells + 1) (slots + 6) Q (hl_LW b a cI cZ cJ o f' t' g') 1252 (hl_LS bs b a o (nI i)) []) : hl_X p l e room_1 s m #[Value.ref bs] below meth c 7 D A cells slots Q (hl_LW b a cI cZ cJ o f t g) 605 (hl_LS bs b a o (nI i)) [] := by
  have ho := hR.1
  have hoM := hl_R_okM hR
  have hu := hl_R_up hc hR
  have hR0 := hl_R_t (fun _ => 0) hR
  obtain ⟨h, hz, hX, hbl, hbA, hL⟩ := id H
  have hf0 : cells + 0 ≤ room_1.cells ∧ slots + 0 ≤ room_1.slots := ⟨by omega, by omega⟩
  refine hl_aload_n h 1 dL_law_605 rfl ?_
  refine hl_callPViD h (st := []) (wc := hl_WC a cI cZ g) (wr := hl_WM b cI cZ t ++ [(o, .inl (cJ, 1, .inr (.inl f)))]) [20, 21, 22, 23, 24, 25, 26, 27, 28, 29, 30, 31, 32, 33, 34, 35, 36, 37, 38, 39, 40, 41, 42, 43, 44] [0, 1, 2, 3, 4, 5, 6, 7, 8, 9, 10, 11, 12, 13, 14, 15, 16, 17, 18, 19] rfl rfl (by decide) (by decide) (by decide) (c_X5_settle l D cI cZ cJ a g) (cwV 0 h.2.2.2.2.1 gL_law_X5_settle rfl rfl rfl (by decide +kernel) ⟨Nat.le_of_ble_eq_true rfl, Nat.le_of_ble_eq_true rfl⟩) (q0 := 20) rfl rfl dL_law_606 rfl (Nat.le_of_ble_eq_true rfl) hf0 rfl ?_
  refine hl_wd (w' := hl_LW b a cI cZ cJ o f t ((hl_it b_X1_payAll 0 4 (g, 0)).1)) rfl ?_
  refine hl_aload_n h 2 dL_law_609 rfl ?_
  refine hl_callPViD h (st := [.int ((hl_it b_X1_payAll 0 4 (g, 0)).2)]) (wc := hl_WM b cI cZ t) (wr := hl_WO o cI cZ cJ f a ((hl_it b_X1_payAll 0 4 (g, 0)).1)) [0, 1, 2, 3, 4, 5, 6, 7, 8, 9, 10, 11, 12, 13, 14, 15, 16, 17, 18] [19, 20, 21, 22, 23, 24, 25, 26, 27, 28, 29, 30, 31, 32, 33, 34, 35, 36, 37, 38, 39, 40, 41, 42, 43, 44] rfl rfl (by decide) (by decide) (by decide) (c_X6_settle l D cI cZ cJ b t) (cwV 0 h.2.2.2.2.1 gL_law_X6_settle rfl rfl rfl (by decide +kernel) ⟨Nat.le_of_ble_eq_true rfl, Nat.le_of_ble_eq_true rfl⟩) (q0 := 0) rfl rfl dL_law_610 rfl (Nat.le_of_ble_eq_true rfl) hf0 rfl ?_
  refine hl_wsub [26, 27, 28, 29, 30, 31, 32, 33, 34, 35, 36, 37, 38, 39, 40, 41, 42, 43, 44, 0, 1, 2, 3, 4, 5, 6, 7, 8, 9, 10, 11, 12, 13, 14, 15, 16, 17, 18, 19, 20, 21, 22, 23, 24, 25] (w' := hl_LW b a cI cZ cJ o f (f_X6_settle (hl_su t 23 (fun _ => 0))) ((hl_it b_X1_payAll 0 4 (g, 0)).1)) (by decide) rfl ?_
  refine hl_icmp_eq_T h 1252 dL_law_613 (by decide) ((hl_R_settle hc hR0).1) ?_
  refine hl_widen (cells + 1) (slots + 6) (by omega) (by omega) ?_
  exact kk _ _ _ _ _ _ ((hl_R_settle hc hR0).2)

set_option maxHeartbeats 4000000 in
set_option maxRecDepth 100000 in
theorem law_today {p : Program} {l : Launch} {e : Env} {s : State} {m : MethodId} {below : List Frame} {meth : Method} {c : Code} {D : va_G} {cI cZ cJ : ClassId} {A : Nat → Prop} {cells slots : Nat} {Q : State → Prop} {bs L : Nat} {xs : Nat → Int32} {b a : Nat → Nat} {o : Nat} (H : hl_H p s m c D cI cZ cJ A bs L xs) (hst : l.stackTraces = false) (hf : cells + 1 ≤ room_1.cells ∧ slots + 6 ≤ room_1.slots) {i : Nat} (hi : i + 5 ≤ L) {f : Nat → Int64} {g t : Nat → Nat → Int32} {n0 N M T : Nat} (hc : n0 < 512) (hR : hl_R n0 N M T g t) (kk : ∀ (f' : Nat → Int64) (t' g' : Nat → Nat → Int32) (N' M' T' : Nat), hl_R (n0 + 1) N' M' T' g' t' → hl_X p l e room_1 s m #[Value.ref bs] below meth c 7 D A (cells + 1) (slots + 6) Q (hl_LW b a cI cZ cJ o f' t' g') 1252 (hl_LS bs b a o (nI i)) []) : hl_X p l e room_1 s m #[Value.ref bs] below meth c 7 D A cells slots Q (hl_LW b a cI cZ cJ o f t g) 618 (hl_LS bs b a o (nI i)) [] := by
  have ho := hR.1
  have hoM := hl_R_okM hR
  have hu := hl_R_up hc hR
  have hR0 := hl_R_t (fun _ => 0) hR
  obtain ⟨h, hz, hX, hbl, hbA, hL⟩ := id H
  have hf0 : cells + 0 ≤ room_1.cells ∧ slots + 0 ≤ room_1.slots := ⟨by omega, by omega⟩
  refine hl_aload_n h 1 dL_law_618 rfl ?_
  refine hl_callPViD h (st := []) (wc := hl_WC a cI cZ g) (wr := hl_WM b cI cZ t ++ [(o, .inl (cJ, 1, .inr (.inl f)))]) [20, 21, 22, 23, 24, 25, 26, 27, 28, 29, 30, 31, 32, 33, 34, 35, 36, 37, 38, 39, 40, 41, 42, 43, 44] [0, 1, 2, 3, 4, 5, 6, 7, 8, 9, 10, 11, 12, 13, 14, 15, 16, 17, 18, 19] rfl rfl (by decide) (by decide) (by decide) (c_X5_today l D cI cZ cJ a g) (cwV 0 h.2.2.2.2.1 gL_law_X5_today rfl rfl rfl (by decide +kernel) ⟨Nat.le_of_ble_eq_true rfl, Nat.le_of_ble_eq_true rfl⟩) (q0 := 20) rfl rfl dL_law_619 rfl (Nat.le_of_ble_eq_true rfl) hf0 rfl ?_
  refine hl_wd (w' := hl_LW b a cI cZ cJ o f t (g)) rfl ?_
  refine hl_aload_n h 2 dL_law_622 rfl ?_
  refine hl_callPViD h (st := [.int (g 23 0)]) (wc := hl_WM b cI cZ t) (wr := hl_WO o cI cZ cJ f a (g)) [0, 1, 2, 3, 4, 5, 6, 7, 8, 9, 10, 11, 12, 13, 14, 15, 16, 17, 18] [19, 20, 21, 22, 23, 24, 25, 26, 27, 28, 29, 30, 31, 32, 33, 34, 35, 36, 37, 38, 39, 40, 41, 42, 43, 44] rfl rfl (by decide) (by decide) (by decide) (c_X6_today l D cI cZ cJ b t) (cwV 0 h.2.2.2.2.1 gL_law_X6_today rfl rfl rfl (by decide +kernel) ⟨Nat.le_of_ble_eq_true rfl, Nat.le_of_ble_eq_true rfl⟩) (q0 := 0) rfl rfl dL_law_623 rfl (Nat.le_of_ble_eq_true rfl) hf0 rfl ?_
  refine hl_wsub [26, 27, 28, 29, 30, 31, 32, 33, 34, 35, 36, 37, 38, 39, 40, 41, 42, 43, 44, 0, 1, 2, 3, 4, 5, 6, 7, 8, 9, 10, 11, 12, 13, 14, 15, 16, 17, 18, 19, 20, 21, 22, 23, 24, 25] (w' := hl_LW b a cI cZ cJ o f (hl_su t 23 (fun _ => 0)) (g)) (by decide) rfl ?_
  refine hl_icmp_eq_T h 1252 dL_law_626 (by decide) (hl_q_today hR) ?_
  refine hl_widen (cells + 1) (slots + 6) (by omega) (by omega) ?_
  exact kk _ _ _ _ _ _ (hl_R_t _ hu)

set_option maxHeartbeats 4000000 in
set_option maxRecDepth 100000 in
theorem law_bookings {p : Program} {l : Launch} {e : Env} {s : State} {m : MethodId} {below : List Frame} {meth : Method} {c : Code} {D : va_G} {cI cZ cJ : ClassId} {A : Nat → Prop} {cells slots : Nat} {Q : State → Prop} {bs L : Nat} {xs : Nat → Int32} {b a : Nat → Nat} {o : Nat} (H : hl_H p s m c D cI cZ cJ A bs L xs) (hst : l.stackTraces = false) (hf : cells + 1 ≤ room_1.cells ∧ slots + 6 ≤ room_1.slots) {i : Nat} (hi : i + 5 ≤ L) {f : Nat → Int64} {g t : Nat → Nat → Int32} {n0 N M T : Nat} (hc : n0 < 512) (hR : hl_R n0 N M T g t) (kk : ∀ (f' : Nat → Int64) (t' g' : Nat → Nat → Int32) (N' M' T' : Nat), hl_R (n0 + 1) N' M' T' g' t' → hl_X p l e room_1 s m #[Value.ref bs] below meth c 7 D A (cells + 1) (slots + 6) Q (hl_LW b a cI cZ cJ o f' t' g') 1252 (hl_LS bs b a o (nI i)) []) : hl_X p l e room_1 s m #[Value.ref bs] below meth c 7 D A cells slots Q (hl_LW b a cI cZ cJ o f t g) 631 (hl_LS bs b a o (nI i)) [] := by
  have ho := hR.1
  have hoM := hl_R_okM hR
  have hu := hl_R_up hc hR
  have hR0 := hl_R_t (fun _ => 0) hR
  obtain ⟨h, hz, hX, hbl, hbA, hL⟩ := id H
  have hf0 : cells + 0 ≤ room_1.cells ∧ slots + 0 ≤ room_1.slots := ⟨by omega, by omega⟩
  refine hl_aload_n h 1 dL_law_631 rfl ?_
  refine hl_callPViD h (st := []) (wc := hl_WC a cI cZ g) (wr := hl_WM b cI cZ t ++ [(o, .inl (cJ, 1, .inr (.inl f)))]) [20, 21, 22, 23, 24, 25, 26, 27, 28, 29, 30, 31, 32, 33, 34, 35, 36, 37, 38, 39, 40, 41, 42, 43, 44] [0, 1, 2, 3, 4, 5, 6, 7, 8, 9, 10, 11, 12, 13, 14, 15, 16, 17, 18, 19] rfl rfl (by decide) (by decide) (by decide) (c_X5_bookings l D cI cZ cJ a g) (cwV 0 h.2.2.2.2.1 gL_law_X5_bookings rfl rfl rfl (by decide +kernel) ⟨Nat.le_of_ble_eq_true rfl, Nat.le_of_ble_eq_true rfl⟩) (q0 := 20) rfl rfl dL_law_632 rfl (Nat.le_of_ble_eq_true rfl) hf0 rfl ?_
  refine hl_wd (w' := hl_LW b a cI cZ cJ o f t (g)) rfl ?_
  refine hl_aload_n h 2 dL_law_635 rfl ?_
  refine hl_callPViD h (st := [.int (g 16 0)]) (wc := hl_WM b cI cZ t) (wr := hl_WO o cI cZ cJ f a (g)) [0, 1, 2, 3, 4, 5, 6, 7, 8, 9, 10, 11, 12, 13, 14, 15, 16, 17, 18] [19, 20, 21, 22, 23, 24, 25, 26, 27, 28, 29, 30, 31, 32, 33, 34, 35, 36, 37, 38, 39, 40, 41, 42, 43, 44] rfl rfl (by decide) (by decide) (by decide) (c_X6_bookings l D cI cZ cJ b t) (cwV 0 h.2.2.2.2.1 gL_law_X6_bookings rfl rfl rfl (by decide +kernel) ⟨Nat.le_of_ble_eq_true rfl, Nat.le_of_ble_eq_true rfl⟩) (q0 := 0) rfl rfl dL_law_636 rfl (Nat.le_of_ble_eq_true rfl) hf0 rfl ?_
  refine hl_wsub [26, 27, 28, 29, 30, 31, 32, 33, 34, 35, 36, 37, 38, 39, 40, 41, 42, 43, 44, 0, 1, 2, 3, 4, 5, 6, 7, 8, 9, 10, 11, 12, 13, 14, 15, 16, 17, 18, 19, 20, 21, 22, 23, 24, 25] (w' := hl_LW b a cI cZ cJ o f (hl_su t 23 (fun _ => 0)) (g)) (by decide) rfl ?_
  refine hl_icmp_eq_T h 1252 dL_law_639 (by decide) (hl_q_bookings hR) ?_
  refine hl_widen (cells + 1) (slots + 6) (by omega) (by omega) ?_
  exact kk _ _ _ _ _ _ (hl_R_t _ hu)

set_option maxHeartbeats 4000000 in
set_option maxRecDepth 100000 in
theorem law_setBroken {p : Program} {l : Launch} {e : Env} {s : State} {m : MethodId} {below : List Frame} {meth : Method} {c : Code} {D : va_G} {cI cZ cJ : ClassId} {A : Nat → Prop} {cells slots : Nat} {Q : State → Prop} {bs L : Nat} {xs : Nat → Int32} {b a : Nat → Nat} {o : Nat} (H : hl_H p s m c D cI cZ cJ A bs L xs) (hst : l.stackTraces = false) (hf : cells + 1 ≤ room_1.cells ∧ slots + 6 ≤ room_1.slots) {i : Nat} (hi : i + 5 ≤ L) {f : Nat → Int64} {g t : Nat → Nat → Int32} {n0 N M T : Nat} (hc : n0 < 512) (hR : hl_R n0 N M T g t) (kk : ∀ (f' : Nat → Int64) (t' g' : Nat → Nat → Int32) (N' M' T' : Nat), hl_R (n0 + 1) N' M' T' g' t' → hl_X p l e room_1 s m #[Value.ref bs] below meth c 7 D A (cells + 1) (slots + 6) Q (hl_LW b a cI cZ cJ o f' t' g') 1252 (hl_LS bs b a o (nI i)) []) : hl_X p l e room_1 s m #[Value.ref bs] below meth c 7 D A cells slots Q (hl_LW b a cI cZ cJ o f t g) 292 (hl_LS bs b a o (nI i)) [] := by
  have ho := hR.1
  have hoM := hl_R_okM hR
  have hu := hl_R_up hc hR
  have hR0 := hl_R_t (fun _ => 0) hR
  obtain ⟨h, hz, hX, hbl, hbA, hL⟩ := id H
  have hf0 : cells + 0 ≤ room_1.cells ∧ slots + 0 ≤ room_1.slots := ⟨by omega, by omega⟩
  have e8 := hl_q_broken hR
  have o8 := ho.2.2.2.2.2.2
  refine hl_aload_n h 1 dL_law_292 rfl ?_
  refine hl_arg H 0 4 (i := i) (j := 1) rfl rfl (by omega) (by decide) dL_law_293 dL_law_294 dL_law_296 dL_law_297 dL_law_298 ?_
  refine hl_if_eq h 306 dL_law_299 (by decide) (fun h0 => ?_) (fun h0 => ?_)
  · refine hl_iconst h 0 dL_law_306 (by decide) ?_
    refine hl_callPViD h (st := []) (wc := hl_WC a cI cZ g) (wr := hl_WM b cI cZ t ++ [(o, .inl (cJ, 1, .inr (.inl f)))]) [20, 21, 22, 23, 24, 25, 26, 27, 28, 29, 30, 31, 32, 33, 34, 35, 36, 37, 38, 39, 40, 41, 42, 43, 44] [0, 1, 2, 3, 4, 5, 6, 7, 8, 9, 10, 11, 12, 13, 14, 15, 16, 17, 18, 19] rfl rfl (by decide) (by decide) (by decide) (c_X5_setBroken l D cI cZ cJ a g 0 (Or.inl rfl) o8) (cwV 1 h.2.2.2.2.1 gL_law_X5_setBroken rfl rfl rfl (by decide +kernel) ⟨Nat.le_of_ble_eq_true rfl, Nat.le_of_ble_eq_true rfl⟩) (q0 := 20) rfl rfl dL_law_307 rfl (Nat.le_of_ble_eq_true rfl) hf0 rfl ?_
    refine hl_wd (w' := hl_LW b a cI cZ cJ o f t (hl_su g 8 (fun _ => 0))) rfl ?_
    refine hl_aload_n h 2 dL_law_310 rfl ?_
    refine hl_arg H 0 4 (i := i) (j := 1) rfl rfl (by omega) (by decide) dL_law_311 dL_law_312 dL_law_314 dL_law_315 dL_law_316 ?_
    refine hl_if_eq_T h 324 dL_law_317 (by decide) h0 ?_
    refine hl_iconst h 0 dL_law_324 (by decide) ?_
    refine hl_callPViD h (st := [.int (g 8 0)]) (wc := hl_WM b cI cZ t) (wr := hl_WO o cI cZ cJ f a (hl_su g 8 (fun _ => 0))) [0, 1, 2, 3, 4, 5, 6, 7, 8, 9, 10, 11, 12, 13, 14, 15, 16, 17, 18] [19, 20, 21, 22, 23, 24, 25, 26, 27, 28, 29, 30, 31, 32, 33, 34, 35, 36, 37, 38, 39, 40, 41, 42, 43, 44] rfl rfl (by decide) (by decide) (by decide) (c_X6_setBroken l D cI cZ cJ b t 0 (Or.inl rfl) (by rw [← e8]; exact o8)) (cwV 1 h.2.2.2.2.1 gL_law_X6_setBroken rfl rfl rfl (by decide +kernel) ⟨Nat.le_of_ble_eq_true rfl, Nat.le_of_ble_eq_true rfl⟩) (q0 := 0) rfl rfl dL_law_325 rfl (Nat.le_of_ble_eq_true rfl) hf0 rfl ?_
    refine hl_wsub [26, 27, 28, 29, 30, 31, 32, 33, 34, 35, 36, 37, 38, 39, 40, 41, 42, 43, 44, 0, 1, 2, 3, 4, 5, 6, 7, 8, 9, 10, 11, 12, 13, 14, 15, 16, 17, 18, 19, 20, 21, 22, 23, 24, 25] (w' := hl_LW b a cI cZ cJ o f (hl_su (hl_su t 23 (fun _ => 0)) 6 (fun _ => 0)) (hl_su g 8 (fun _ => 0))) (by decide) rfl ?_
    refine hl_icmp_eq_T h 1252 dL_law_328 (by decide) e8 ?_
    refine hl_widen (cells + 1) (slots + 6) (by omega) (by omega) ?_
    exact kk _ _ _ _ _ _ (hl_R_setBroken hc hR (Or.inl rfl))
  · refine hl_iconst h 1 dL_law_302 (by decide) ?_
    refine hl_goto h 307 dL_law_303 (by decide) ?_
    refine hl_callPViD h (st := []) (wc := hl_WC a cI cZ g) (wr := hl_WM b cI cZ t ++ [(o, .inl (cJ, 1, .inr (.inl f)))]) [20, 21, 22, 23, 24, 25, 26, 27, 28, 29, 30, 31, 32, 33, 34, 35, 36, 37, 38, 39, 40, 41, 42, 43, 44] [0, 1, 2, 3, 4, 5, 6, 7, 8, 9, 10, 11, 12, 13, 14, 15, 16, 17, 18, 19] rfl rfl (by decide) (by decide) (by decide) (c_X5_setBroken l D cI cZ cJ a g 1 (Or.inr rfl) o8) (cwV 1 h.2.2.2.2.1 gL_law_X5_setBroken rfl rfl rfl (by decide +kernel) ⟨Nat.le_of_ble_eq_true rfl, Nat.le_of_ble_eq_true rfl⟩) (q0 := 20) rfl rfl dL_law_307 rfl (Nat.le_of_ble_eq_true rfl) hf0 rfl ?_
    refine hl_wd (w' := hl_LW b a cI cZ cJ o f t (hl_su g 8 (fun _ => 1))) rfl ?_
    refine hl_aload_n h 2 dL_law_310 rfl ?_
    refine hl_arg H 0 4 (i := i) (j := 1) rfl rfl (by omega) (by decide) dL_law_311 dL_law_312 dL_law_314 dL_law_315 dL_law_316 ?_
    refine hl_if_eq_F h 324 dL_law_317 (by decide) h0 ?_
    refine hl_iconst h 1 dL_law_320 (by decide) ?_
    refine hl_goto h 325 dL_law_321 (by decide) ?_
    refine hl_callPViD h (st := [.int (g 8 0)]) (wc := hl_WM b cI cZ t) (wr := hl_WO o cI cZ cJ f a (hl_su g 8 (fun _ => 1))) [0, 1, 2, 3, 4, 5, 6, 7, 8, 9, 10, 11, 12, 13, 14, 15, 16, 17, 18] [19, 20, 21, 22, 23, 24, 25, 26, 27, 28, 29, 30, 31, 32, 33, 34, 35, 36, 37, 38, 39, 40, 41, 42, 43, 44] rfl rfl (by decide) (by decide) (by decide) (c_X6_setBroken l D cI cZ cJ b t 1 (Or.inr rfl) (by rw [← e8]; exact o8)) (cwV 1 h.2.2.2.2.1 gL_law_X6_setBroken rfl rfl rfl (by decide +kernel) ⟨Nat.le_of_ble_eq_true rfl, Nat.le_of_ble_eq_true rfl⟩) (q0 := 0) rfl rfl dL_law_325 rfl (Nat.le_of_ble_eq_true rfl) hf0 rfl ?_
    refine hl_wsub [26, 27, 28, 29, 30, 31, 32, 33, 34, 35, 36, 37, 38, 39, 40, 41, 42, 43, 44, 0, 1, 2, 3, 4, 5, 6, 7, 8, 9, 10, 11, 12, 13, 14, 15, 16, 17, 18, 19, 20, 21, 22, 23, 24, 25] (w' := hl_LW b a cI cZ cJ o f (hl_su (hl_su t 23 (fun _ => 0)) 6 (fun _ => 1)) (hl_su g 8 (fun _ => 1))) (by decide) rfl ?_
    refine hl_icmp_eq_T h 1252 dL_law_328 (by decide) e8 ?_
    refine hl_widen (cells + 1) (slots + 6) (by omega) (by omega) ?_
    exact kk _ _ _ _ _ _ (hl_R_setBroken hc hR (Or.inr rfl))
