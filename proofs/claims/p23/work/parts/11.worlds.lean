/-! The states as functions: place, index -> number. su: one place anew. it: a loop's steps from i on, n of them. -/
def hl_su (g : Nat → Nat → Int32) (k : Nat) (f : Nat → Int32) : Nat → Nat → Int32 := fun j => bif Nat.beq j k then f else g j
theorem hl_su_eq (g : Nat → Nat → Int32) (k : Nat) (f : Nat → Int32) : hl_su g k f k = f := by simp [hl_su]
theorem hl_su_ne (g : Nat → Nat → Int32) {k j : Nat} (f : Nat → Int32) (h : j ≠ k) : hl_su g k f j = g j := by
  have h2 : Nat.beq j k = false := by
    cases h3 : Nat.beq j k with
    | false => rfl
    | true => exact absurd (Nat.eq_of_beq_eq_true h3) h
  simp only [hl_su, h2, cond_false]
def hl_it {α : Type} (f : Nat → α → α) : Nat → Nat → α → α
  | _, 0, x => x
  | i, n + 1, x => hl_it f (i + 1) n (f i x)
theorem hl_it_0 {α : Type} (f : Nat → α → α) (i : Nat) (x : α) : hl_it f i 0 x = x := rfl
theorem hl_it_s {α : Type} (f : Nat → α → α) (i n : Nat) (x : α) : hl_it f i (n + 1) x = hl_it f (i + 1) n (f i x) := rfl
def hl_WC (a : Nat → Nat) (cI cZ : ClassId) (g : Nat → Nat → Int32) : va_W := [(a 0, .inr (5, [.ref (a 1), .ref (a 2), .ref (a 3), .ref (a 4), .ref (a 5), .int (g 23 0)])), (a 1, .inr (4, [.ref (a 6), .ref (a 7), .ref (a 8)])), (a 2, .inr (2, [.ref (a 9), .ref (a 10), .ref (a 11), .ref (a 12), .ref (a 13), .int (g 8 0), .int (g 9 0)])), (a 3, .inr (0, [.ref (a 14), .ref (a 15), .ref (a 16), .ref (a 17), .ref (a 18), .ref (a 19), .int (g 16 0)])), (a 4, .inr (3, [.ref (a 20), .ref (a 21), .ref (a 22), .int (g 20 0)])), (a 5, .inr (1, [.ref (a 23), .ref (a 24)])), (a 6, .inl (cI, 8, .inl (g 0))), (a 7, .inl (cI, 8, .inl (g 1))), (a 8, .inl (cI, 8, .inl (g 2))), (a 9, .inl (cI, 4, .inl (g 3))), (a 10, .inl (cI, 4, .inl (g 4))), (a 11, .inl (cI, 4, .inl (g 5))), (a 12, .inl (cI, 4, .inl (g 6))), (a 13, .inl (cI, 4, .inl (g 7))), (a 14, .inl (cI, 80, .inl (g 10))), (a 15, .inl (cI, 80, .inl (g 11))), (a 16, .inl (cI, 80, .inl (g 12))), (a 17, .inl (cI, 80, .inl (g 13))), (a 18, .inl (cZ, 80, .inl (g 14))), (a 19, .inl (cI, 80, .inl (g 15))), (a 20, .inl (cI, 80, .inl (g 17))), (a 21, .inl (cI, 80, .inl (g 18))), (a 22, .inl (cI, 80, .inl (g 19))), (a 23, .inl (cI, 4, .inl (g 21))), (a 24, .inl (cI, 16, .inl (g 22)))]
section
variable {a : Nat → Nat} {cI cZ : ClassId} {g : Nat → Nat → Int32}
theorem hl_wc_0 : (hl_WC a cI cZ g)[0]? = some (a 0, .inr (5, [.ref (a 1), .ref (a 2), .ref (a 3), .ref (a 4), .ref (a 5), .int (g 23 0)])) := rfl
theorem hl_wc_1 : (hl_WC a cI cZ g)[1]? = some (a 1, .inr (4, [.ref (a 6), .ref (a 7), .ref (a 8)])) := rfl
theorem hl_wc_2 : (hl_WC a cI cZ g)[2]? = some (a 2, .inr (2, [.ref (a 9), .ref (a 10), .ref (a 11), .ref (a 12), .ref (a 13), .int (g 8 0), .int (g 9 0)])) := rfl
theorem hl_wc_3 : (hl_WC a cI cZ g)[3]? = some (a 3, .inr (0, [.ref (a 14), .ref (a 15), .ref (a 16), .ref (a 17), .ref (a 18), .ref (a 19), .int (g 16 0)])) := rfl
theorem hl_wc_4 : (hl_WC a cI cZ g)[4]? = some (a 4, .inr (3, [.ref (a 20), .ref (a 21), .ref (a 22), .int (g 20 0)])) := rfl
theorem hl_wc_5 : (hl_WC a cI cZ g)[5]? = some (a 5, .inr (1, [.ref (a 23), .ref (a 24)])) := rfl
theorem hl_wc_6 : (hl_WC a cI cZ g)[6]? = some (a 6, .inl (cI, 8, .inl (g 0))) := rfl
theorem hl_wc_7 : (hl_WC a cI cZ g)[7]? = some (a 7, .inl (cI, 8, .inl (g 1))) := rfl
theorem hl_wc_8 : (hl_WC a cI cZ g)[8]? = some (a 8, .inl (cI, 8, .inl (g 2))) := rfl
theorem hl_wc_9 : (hl_WC a cI cZ g)[9]? = some (a 9, .inl (cI, 4, .inl (g 3))) := rfl
theorem hl_wc_10 : (hl_WC a cI cZ g)[10]? = some (a 10, .inl (cI, 4, .inl (g 4))) := rfl
theorem hl_wc_11 : (hl_WC a cI cZ g)[11]? = some (a 11, .inl (cI, 4, .inl (g 5))) := rfl
theorem hl_wc_12 : (hl_WC a cI cZ g)[12]? = some (a 12, .inl (cI, 4, .inl (g 6))) := rfl
theorem hl_wc_13 : (hl_WC a cI cZ g)[13]? = some (a 13, .inl (cI, 4, .inl (g 7))) := rfl
theorem hl_wc_14 : (hl_WC a cI cZ g)[14]? = some (a 14, .inl (cI, 80, .inl (g 10))) := rfl
theorem hl_wc_15 : (hl_WC a cI cZ g)[15]? = some (a 15, .inl (cI, 80, .inl (g 11))) := rfl
theorem hl_wc_16 : (hl_WC a cI cZ g)[16]? = some (a 16, .inl (cI, 80, .inl (g 12))) := rfl
theorem hl_wc_17 : (hl_WC a cI cZ g)[17]? = some (a 17, .inl (cI, 80, .inl (g 13))) := rfl
theorem hl_wc_18 : (hl_WC a cI cZ g)[18]? = some (a 18, .inl (cZ, 80, .inl (g 14))) := rfl
theorem hl_wc_19 : (hl_WC a cI cZ g)[19]? = some (a 19, .inl (cI, 80, .inl (g 15))) := rfl
theorem hl_wc_20 : (hl_WC a cI cZ g)[20]? = some (a 20, .inl (cI, 80, .inl (g 17))) := rfl
theorem hl_wc_21 : (hl_WC a cI cZ g)[21]? = some (a 21, .inl (cI, 80, .inl (g 18))) := rfl
theorem hl_wc_22 : (hl_WC a cI cZ g)[22]? = some (a 22, .inl (cI, 80, .inl (g 19))) := rfl
theorem hl_wc_23 : (hl_WC a cI cZ g)[23]? = some (a 23, .inl (cI, 4, .inl (g 21))) := rfl
theorem hl_wc_24 : (hl_WC a cI cZ g)[24]? = some (a 24, .inl (cI, 16, .inl (g 22))) := rfl
theorem hl_wc_s23 {v : Int32} : (hl_WC a cI cZ g).set 0 (a 0, .inr (5, ([.ref (a 1), .ref (a 2), .ref (a 3), .ref (a 4), .ref (a 5), .int (g 23 0)] : List Value).set 5 (.int v))) = hl_WC a cI cZ (hl_su g 23 (fun _ => v)) := rfl
theorem hl_wc_s8 {v : Int32} : (hl_WC a cI cZ g).set 2 (a 2, .inr (2, ([.ref (a 9), .ref (a 10), .ref (a 11), .ref (a 12), .ref (a 13), .int (g 8 0), .int (g 9 0)] : List Value).set 5 (.int v))) = hl_WC a cI cZ (hl_su g 8 (fun _ => v)) := rfl
theorem hl_wc_s9 {v : Int32} : (hl_WC a cI cZ g).set 2 (a 2, .inr (2, ([.ref (a 9), .ref (a 10), .ref (a 11), .ref (a 12), .ref (a 13), .int (g 8 0), .int (g 9 0)] : List Value).set 6 (.int v))) = hl_WC a cI cZ (hl_su g 9 (fun _ => v)) := rfl
theorem hl_wc_s16 {v : Int32} : (hl_WC a cI cZ g).set 3 (a 3, .inr (0, ([.ref (a 14), .ref (a 15), .ref (a 16), .ref (a 17), .ref (a 18), .ref (a 19), .int (g 16 0)] : List Value).set 6 (.int v))) = hl_WC a cI cZ (hl_su g 16 (fun _ => v)) := rfl
theorem hl_wc_s20 {v : Int32} : (hl_WC a cI cZ g).set 4 (a 4, .inr (3, ([.ref (a 20), .ref (a 21), .ref (a 22), .int (g 20 0)] : List Value).set 3 (.int v))) = hl_WC a cI cZ (hl_su g 20 (fun _ => v)) := rfl
theorem hl_wc_t0 {f : Nat → Int32} : (hl_WC a cI cZ g).set 6 (a 6, .inl (cI, 8, .inl f)) = hl_WC a cI cZ (hl_su g 0 f) := rfl
theorem hl_wc_t1 {f : Nat → Int32} : (hl_WC a cI cZ g).set 7 (a 7, .inl (cI, 8, .inl f)) = hl_WC a cI cZ (hl_su g 1 f) := rfl
theorem hl_wc_t2 {f : Nat → Int32} : (hl_WC a cI cZ g).set 8 (a 8, .inl (cI, 8, .inl f)) = hl_WC a cI cZ (hl_su g 2 f) := rfl
theorem hl_wc_t3 {f : Nat → Int32} : (hl_WC a cI cZ g).set 9 (a 9, .inl (cI, 4, .inl f)) = hl_WC a cI cZ (hl_su g 3 f) := rfl
theorem hl_wc_t4 {f : Nat → Int32} : (hl_WC a cI cZ g).set 10 (a 10, .inl (cI, 4, .inl f)) = hl_WC a cI cZ (hl_su g 4 f) := rfl
theorem hl_wc_t5 {f : Nat → Int32} : (hl_WC a cI cZ g).set 11 (a 11, .inl (cI, 4, .inl f)) = hl_WC a cI cZ (hl_su g 5 f) := rfl
theorem hl_wc_t6 {f : Nat → Int32} : (hl_WC a cI cZ g).set 12 (a 12, .inl (cI, 4, .inl f)) = hl_WC a cI cZ (hl_su g 6 f) := rfl
theorem hl_wc_t7 {f : Nat → Int32} : (hl_WC a cI cZ g).set 13 (a 13, .inl (cI, 4, .inl f)) = hl_WC a cI cZ (hl_su g 7 f) := rfl
theorem hl_wc_t10 {f : Nat → Int32} : (hl_WC a cI cZ g).set 14 (a 14, .inl (cI, 80, .inl f)) = hl_WC a cI cZ (hl_su g 10 f) := rfl
theorem hl_wc_t11 {f : Nat → Int32} : (hl_WC a cI cZ g).set 15 (a 15, .inl (cI, 80, .inl f)) = hl_WC a cI cZ (hl_su g 11 f) := rfl
theorem hl_wc_t12 {f : Nat → Int32} : (hl_WC a cI cZ g).set 16 (a 16, .inl (cI, 80, .inl f)) = hl_WC a cI cZ (hl_su g 12 f) := rfl
theorem hl_wc_t13 {f : Nat → Int32} : (hl_WC a cI cZ g).set 17 (a 17, .inl (cI, 80, .inl f)) = hl_WC a cI cZ (hl_su g 13 f) := rfl
theorem hl_wc_t14 {f : Nat → Int32} : (hl_WC a cI cZ g).set 18 (a 18, .inl (cZ, 80, .inl f)) = hl_WC a cI cZ (hl_su g 14 f) := rfl
theorem hl_wc_t15 {f : Nat → Int32} : (hl_WC a cI cZ g).set 19 (a 19, .inl (cI, 80, .inl f)) = hl_WC a cI cZ (hl_su g 15 f) := rfl
theorem hl_wc_t17 {f : Nat → Int32} : (hl_WC a cI cZ g).set 20 (a 20, .inl (cI, 80, .inl f)) = hl_WC a cI cZ (hl_su g 17 f) := rfl
theorem hl_wc_t18 {f : Nat → Int32} : (hl_WC a cI cZ g).set 21 (a 21, .inl (cI, 80, .inl f)) = hl_WC a cI cZ (hl_su g 18 f) := rfl
theorem hl_wc_t19 {f : Nat → Int32} : (hl_WC a cI cZ g).set 22 (a 22, .inl (cI, 80, .inl f)) = hl_WC a cI cZ (hl_su g 19 f) := rfl
theorem hl_wc_t21 {f : Nat → Int32} : (hl_WC a cI cZ g).set 23 (a 23, .inl (cI, 4, .inl f)) = hl_WC a cI cZ (hl_su g 21 f) := rfl
theorem hl_wc_t22 {f : Nat → Int32} : (hl_WC a cI cZ g).set 24 (a 24, .inl (cI, 16, .inl f)) = hl_WC a cI cZ (hl_su g 22 f) := rfl
end
/-! the law's world: its four arrays (rooms, marks, guests, came; contents r), and the class's -/
def hl_LR (a : Nat → Nat) (cI : ClassId) (r : Nat → Nat → Int32) : va_W := [(a 25, .inl (cI, 8, .inl (r 0))), (a 26, .inl (cI, 60, .inl (r 1))), (a 27, .inl (cI, 60, .inl (r 2))), (a 28, .inl (cI, 60, .inl (r 3)))]
def hl_LW (a : Nat → Nat) (cI cZ : ClassId) (r g : Nat → Nat → Int32) : va_W := hl_LR a cI r ++ hl_WC a cI cZ g
section
variable {a : Nat → Nat} {cI cZ : ClassId} {r g : Nat → Nat → Int32}
theorem hl_lw_0 : (hl_LW a cI cZ r g)[0]? = some (a 25, .inl (cI, 8, .inl (r 0))) := rfl
theorem hl_lw_1 : (hl_LW a cI cZ r g)[1]? = some (a 26, .inl (cI, 60, .inl (r 1))) := rfl
theorem hl_lw_2 : (hl_LW a cI cZ r g)[2]? = some (a 27, .inl (cI, 60, .inl (r 2))) := rfl
theorem hl_lw_3 : (hl_LW a cI cZ r g)[3]? = some (a 28, .inl (cI, 60, .inl (r 3))) := rfl
theorem hl_lw_4 : (hl_LW a cI cZ r g)[4]? = some (a 0, .inr (5, [.ref (a 1), .ref (a 2), .ref (a 3), .ref (a 4), .ref (a 5), .int (g 23 0)])) := rfl
theorem hl_lw_t0 {f : Nat → Int32} : (hl_LW a cI cZ r g).set 0 (a 25, .inl (cI, 8, .inl f)) = hl_LW a cI cZ (hl_su r 0 f) g := rfl
theorem hl_lw_t1 {f : Nat → Int32} : (hl_LW a cI cZ r g).set 1 (a 26, .inl (cI, 60, .inl f)) = hl_LW a cI cZ (hl_su r 1 f) g := rfl
theorem hl_lw_t2 {f : Nat → Int32} : (hl_LW a cI cZ r g).set 2 (a 27, .inl (cI, 60, .inl f)) = hl_LW a cI cZ (hl_su r 2 f) g := rfl
theorem hl_lw_t3 {f : Nat → Int32} : (hl_LW a cI cZ r g).set 3 (a 28, .inl (cI, 60, .inl f)) = hl_LW a cI cZ (hl_su r 3 f) g := rfl
end
