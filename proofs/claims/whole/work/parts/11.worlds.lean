/-! The states as functions: place, index -> number. su: one place anew. it: a loop's steps from i on, n of them. -/
def hl_su (g : Nat → Nat → Int32) (k : Nat) (f : Nat → Int32) : Nat → Nat → Int32 := fun j => bif Nat.beq j k then f else g j
theorem hl_su_eq (g : Nat → Nat → Int32) (k : Nat) (f : Nat → Int32) : hl_su g k f k = f := by simp [hl_su]
theorem hl_su_ne (g : Nat → Nat → Int32) {k j : Nat} (f : Nat → Int32) (h : j ≠ k) : hl_su g k f j = g j := by
  have h2 : Nat.beq j k = false := by
    cases h3 : Nat.beq j k with
    | false => rfl
    | true => exact absurd (Nat.eq_of_beq_eq_true h3) h
  simp only [hl_su, h2, cond_false]
def hl_it {α : Type} (f : Nat → α → α) : Nat → Nat → α → α
  | _, 0, x => x
  | i, n + 1, x => hl_it f (i + 1) n (f i x)
theorem hl_it_0 {α : Type} (f : Nat → α → α) (i : Nat) (x : α) : hl_it f i 0 x = x := rfl
theorem hl_it_s {α : Type} (f : Nat → α → α) (i n : Nat) (x : α) : hl_it f i (n + 1) x = hl_it f (i + 1) n (f i x) := rfl
def hl_WC (a : Nat → Nat) (cI cZ : ClassId) (g : Nat → Nat → Int32) : va_W := [(a 0, .inr (5, [.ref (a 1), .ref (a 2), .ref (a 3), .ref (a 4), .ref (a 5), .int (g 23 0)])), (a 1, .inr (4, [.ref (a 6), .ref (a 7), .ref (a 8)])), (a 2, .inr (2, [.ref (a 9), .ref (a 10), .ref (a 11), .ref (a 12), .ref (a 13), .int (g 8 0), .int (g 9 0)])), (a 3, .inr (0, [.ref (a 14), .ref (a 15), .ref (a 16), .ref (a 17), .ref (a 18), .ref (a 19), .int (g 16 0)])), (a 4, .inr (3, [.ref (a 20), .ref (a 21), .ref (a 22), .int (g 20 0)])), (a 5, .inr (1, [.ref (a 23), .ref (a 24)])), (a 6, .inl (cI, 8, .inl (g 0))), (a 7, .inl (cI, 8, .inl (g 1))), (a 8, .inl (cI, 8, .inl (g 2))), (a 9, .inl (cI, 4, .inl (g 3))), (a 10, .inl (cI, 4, .inl (g 4))), (a 11, .inl (cI, 4, .inl (g 5))), (a 12, .inl (cI, 4, .inl (g 6))), (a 13, .inl (cI, 4, .inl (g 7))), (a 14, .inl (cI, 80, .inl (g 10))), (a 15, .inl (cI, 80, .inl (g 11))), (a 16, .inl (cI, 80, .inl (g 12))), (a 17, .inl (cI, 80, .inl (g 13))), (a 18, .inl (cZ, 80, .inl (g 14))), (a 19, .inl (cI, 80, .inl (g 15))), (a 20, .inl (cI, 80, .inl (g 17))), (a 21, .inl (cI, 80, .inl (g 18))), (a 22, .inl (cI, 80, .inl (g 19))), (a 23, .inl (cI, 4, .inl (g 21))), (a 24, .inl (cI, 16, .inl (g 22)))]
section
variable {a : Nat → Nat} {cI cZ : ClassId} {g : Nat → Nat → Int32}
theorem hl_wc_0 : (hl_WC a cI cZ g)[0]? = some (a 0, .inr (5, [.ref (a 1), .ref (a 2), .ref (a 3), .ref (a 4), .ref (a 5), .int (g 23 0)])) := rfl
theorem hl_wc_1 : (hl_WC a cI cZ g)[1]? = some (a 1, .inr (4, [.ref (a 6), .ref (a 7), .ref (a 8)])) := rfl
theorem hl_wc_2 : (hl_WC a cI cZ g)[2]? = some (a 2, .inr (2, [.ref (a 9), .ref (a 10), .ref (a 11), .ref (a 12), .ref (a 13), .int (g 8 0), .int (g 9 0)])) := rfl
theorem hl_wc_3 : (hl_WC a cI cZ g)[3]? = some (a 3, .inr (0, [.ref (a 14), .ref (a 15), .ref (a 16), .ref (a 17), .ref (a 18), .ref (a 19), .int (g 16 0)])) := rfl
theorem hl_wc_4 : (hl_WC a cI cZ g)[4]? = some (a 4, .inr (3, [.ref (a 20), .ref (a 21), .ref (a 22), .int (g 20 0)])) := rfl
theorem hl_wc_5 : (hl_WC a cI cZ g)[5]? = some (a 5, .inr (1, [.ref (a 23), .ref (a 24)])) := rfl
theorem hl_wc_6 : (hl_WC a cI cZ g)[6]? = some (a 6, .inl (cI, 8, .inl (g 0))) := rfl
theorem hl_wc_7 : (hl_WC a cI cZ g)[7]? = some (a 7, .inl (cI, 8, .inl (g 1))) := rfl
theorem hl_wc_8 : (hl_WC a cI cZ g)[8]? = some (a 8, .inl (cI, 8, .inl (g 2))) := rfl
theorem hl_wc_9 : (hl_WC a cI cZ g)[9]? = some (a 9, .inl (cI, 4, .inl (g 3))) := rfl
theorem hl_wc_10 : (hl_WC a cI cZ g)[10]? = some (a 10, .inl (cI, 4, .inl (g 4))) := rfl
theorem hl_wc_11 : (hl_WC a cI cZ g)[11]? = some (a 11, .inl (cI, 4, .inl (g 5))) := rfl
theorem hl_wc_12 : (hl_WC a cI cZ g)[12]? = some (a 12, .inl (cI, 4, .inl (g 6))) := rfl
theorem hl_wc_13 : (hl_WC a cI cZ g)[13]? = some (a 13, .inl (cI, 4, .inl (g 7))) := rfl
theorem hl_wc_14 : (hl_WC a cI cZ g)[14]? = some (a 14, .inl (cI, 80, .inl (g 10))) := rfl
theorem hl_wc_15 : (hl_WC a cI cZ g)[15]? = some (a 15, .inl (cI, 80, .inl (g 11))) := rfl
theorem hl_wc_16 : (hl_WC a cI cZ g)[16]? = some (a 16, .inl (cI, 80, .inl (g 12))) := rfl
theorem hl_wc_17 : (hl_WC a cI cZ g)[17]? = some (a 17, .inl (cI, 80, .inl (g 13))) := rfl
theorem hl_wc_18 : (hl_WC a cI cZ g)[18]? = some (a 18, .inl (cZ, 80, .inl (g 14))) := rfl
theorem hl_wc_19 : (hl_WC a cI cZ g)[19]? = some (a 19, .inl (cI, 80, .inl (g 15))) := rfl
theorem hl_wc_20 : (hl_WC a cI cZ g)[20]? = some (a 20, .inl (cI, 80, .inl (g 17))) := rfl
theorem hl_wc_21 : (hl_WC a cI cZ g)[21]? = some (a 21, .inl (cI, 80, .inl (g 18))) := rfl
theorem hl_wc_22 : (hl_WC a cI cZ g)[22]? = some (a 22, .inl (cI, 80, .inl (g 19))) := rfl
theorem hl_wc_23 : (hl_WC a cI cZ g)[23]? = some (a 23, .inl (cI, 4, .inl (g 21))) := rfl
theorem hl_wc_24 : (hl_WC a cI cZ g)[24]? = some (a 24, .inl (cI, 16, .inl (g 22))) := rfl
theorem hl_wc_s23 {v : Int32} : (hl_WC a cI cZ g).set 0 (a 0, .inr (5, ([.ref (a 1), .ref (a 2), .ref (a 3), .ref (a 4), .ref (a 5), .int (g 23 0)] : List Value).set 5 (.int v))) = hl_WC a cI cZ (hl_su g 23 (fun _ => v)) := rfl
theorem hl_wc_s8 {v : Int32} : (hl_WC a cI cZ g).set 2 (a 2, .inr (2, ([.ref (a 9), .ref (a 10), .ref (a 11), .ref (a 12), .ref (a 13), .int (g 8 0), .int (g 9 0)] : List Value).set 5 (.int v))) = hl_WC a cI cZ (hl_su g 8 (fun _ => v)) := rfl
theorem hl_wc_s9 {v : Int32} : (hl_WC a cI cZ g).set 2 (a 2, .inr (2, ([.ref (a 9), .ref (a 10), .ref (a 11), .ref (a 12), .ref (a 13), .int (g 8 0), .int (g 9 0)] : List Value).set 6 (.int v))) = hl_WC a cI cZ (hl_su g 9 (fun _ => v)) := rfl
theorem hl_wc_s16 {v : Int32} : (hl_WC a cI cZ g).set 3 (a 3, .inr (0, ([.ref (a 14), .ref (a 15), .ref (a 16), .ref (a 17), .ref (a 18), .ref (a 19), .int (g 16 0)] : List Value).set 6 (.int v))) = hl_WC a cI cZ (hl_su g 16 (fun _ => v)) := rfl
theorem hl_wc_s20 {v : Int32} : (hl_WC a cI cZ g).set 4 (a 4, .inr (3, ([.ref (a 20), .ref (a 21), .ref (a 22), .int (g 20 0)] : List Value).set 3 (.int v))) = hl_WC a cI cZ (hl_su g 20 (fun _ => v)) := rfl
theorem hl_wc_t0 {f : Nat → Int32} : (hl_WC a cI cZ g).set 6 (a 6, .inl (cI, 8, .inl f)) = hl_WC a cI cZ (hl_su g 0 f) := rfl
theorem hl_wc_t1 {f : Nat → Int32} : (hl_WC a cI cZ g).set 7 (a 7, .inl (cI, 8, .inl f)) = hl_WC a cI cZ (hl_su g 1 f) := rfl
theorem hl_wc_t2 {f : Nat → Int32} : (hl_WC a cI cZ g).set 8 (a 8, .inl (cI, 8, .inl f)) = hl_WC a cI cZ (hl_su g 2 f) := rfl
theorem hl_wc_t3 {f : Nat → Int32} : (hl_WC a cI cZ g).set 9 (a 9, .inl (cI, 4, .inl f)) = hl_WC a cI cZ (hl_su g 3 f) := rfl
theorem hl_wc_t4 {f : Nat → Int32} : (hl_WC a cI cZ g).set 10 (a 10, .inl (cI, 4, .inl f)) = hl_WC a cI cZ (hl_su g 4 f) := rfl
theorem hl_wc_t5 {f : Nat → Int32} : (hl_WC a cI cZ g).set 11 (a 11, .inl (cI, 4, .inl f)) = hl_WC a cI cZ (hl_su g 5 f) := rfl
theorem hl_wc_t6 {f : Nat → Int32} : (hl_WC a cI cZ g).set 12 (a 12, .inl (cI, 4, .inl f)) = hl_WC a cI cZ (hl_su g 6 f) := rfl
theorem hl_wc_t7 {f : Nat → Int32} : (hl_WC a cI cZ g).set 13 (a 13, .inl (cI, 4, .inl f)) = hl_WC a cI cZ (hl_su g 7 f) := rfl
theorem hl_wc_t10 {f : Nat → Int32} : (hl_WC a cI cZ g).set 14 (a 14, .inl (cI, 80, .inl f)) = hl_WC a cI cZ (hl_su g 10 f) := rfl
theorem hl_wc_t11 {f : Nat → Int32} : (hl_WC a cI cZ g).set 15 (a 15, .inl (cI, 80, .inl f)) = hl_WC a cI cZ (hl_su g 11 f) := rfl
theorem hl_wc_t12 {f : Nat → Int32} : (hl_WC a cI cZ g).set 16 (a 16, .inl (cI, 80, .inl f)) = hl_WC a cI cZ (hl_su g 12 f) := rfl
theorem hl_wc_t13 {f : Nat → Int32} : (hl_WC a cI cZ g).set 17 (a 17, .inl (cI, 80, .inl f)) = hl_WC a cI cZ (hl_su g 13 f) := rfl
theorem hl_wc_t14 {f : Nat → Int32} : (hl_WC a cI cZ g).set 18 (a 18, .inl (cZ, 80, .inl f)) = hl_WC a cI cZ (hl_su g 14 f) := rfl
theorem hl_wc_t15 {f : Nat → Int32} : (hl_WC a cI cZ g).set 19 (a 19, .inl (cI, 80, .inl f)) = hl_WC a cI cZ (hl_su g 15 f) := rfl
theorem hl_wc_t17 {f : Nat → Int32} : (hl_WC a cI cZ g).set 20 (a 20, .inl (cI, 80, .inl f)) = hl_WC a cI cZ (hl_su g 17 f) := rfl
theorem hl_wc_t18 {f : Nat → Int32} : (hl_WC a cI cZ g).set 21 (a 21, .inl (cI, 80, .inl f)) = hl_WC a cI cZ (hl_su g 18 f) := rfl
theorem hl_wc_t19 {f : Nat → Int32} : (hl_WC a cI cZ g).set 22 (a 22, .inl (cI, 80, .inl f)) = hl_WC a cI cZ (hl_su g 19 f) := rfl
theorem hl_wc_t21 {f : Nat → Int32} : (hl_WC a cI cZ g).set 23 (a 23, .inl (cI, 4, .inl f)) = hl_WC a cI cZ (hl_su g 21 f) := rfl
theorem hl_wc_t22 {f : Nat → Int32} : (hl_WC a cI cZ g).set 24 (a 24, .inl (cI, 16, .inl f)) = hl_WC a cI cZ (hl_su g 22 f) := rfl
end
def hl_WM (b : Nat → Nat) (cI cZ : ClassId) (t : Nat → Nat → Int32) : va_W := [(b 0, .inr (6, [.ref (b 1), .ref (b 2), .ref (b 3), .ref (b 4), .ref (b 5), .ref (b 6), .int (t 6 0), .int (t 7 0), .int (t 8 0), .ref (b 7), .ref (b 8), .ref (b 9), .ref (b 10), .ref (b 11), .ref (b 12), .ref (b 13), .ref (b 14), .ref (b 15), .int (t 18 0), .ref (b 16), .ref (b 17), .ref (b 18), .int (t 22 0), .int (t 23 0)])), (b 1, .inl (cI, 8, .inl (t 0))), (b 2, .inl (cI, 8, .inl (t 1))), (b 3, .inl (cI, 8, .inl (t 2))), (b 4, .inl (cI, 4, .inl (t 3))), (b 5, .inl (cI, 4, .inl (t 4))), (b 6, .inl (cI, 4, .inl (t 5))), (b 7, .inl (cI, 16, .inl (t 9))), (b 8, .inl (cI, 1208, .inl (t 10))), (b 9, .inl (cI, 1208, .inl (t 11))), (b 10, .inl (cI, 80, .inl (t 12))), (b 11, .inl (cI, 80, .inl (t 13))), (b 12, .inl (cI, 80, .inl (t 14))), (b 13, .inl (cI, 80, .inl (t 15))), (b 14, .inl (cZ, 80, .inl (t 16))), (b 15, .inl (cI, 80, .inl (t 17))), (b 16, .inl (cI, 80, .inl (t 19))), (b 17, .inl (cI, 80, .inl (t 20))), (b 18, .inl (cI, 80, .inl (t 21)))]
section
variable {b : Nat → Nat} {cI cZ : ClassId} {t : Nat → Nat → Int32}
theorem hl_wm_0 : (hl_WM b cI cZ t)[0]? = some (b 0, .inr (6, [.ref (b 1), .ref (b 2), .ref (b 3), .ref (b 4), .ref (b 5), .ref (b 6), .int (t 6 0), .int (t 7 0), .int (t 8 0), .ref (b 7), .ref (b 8), .ref (b 9), .ref (b 10), .ref (b 11), .ref (b 12), .ref (b 13), .ref (b 14), .ref (b 15), .int (t 18 0), .ref (b 16), .ref (b 17), .ref (b 18), .int (t 22 0), .int (t 23 0)])) := rfl
theorem hl_wm_1 : (hl_WM b cI cZ t)[1]? = some (b 1, .inl (cI, 8, .inl (t 0))) := rfl
theorem hl_wm_2 : (hl_WM b cI cZ t)[2]? = some (b 2, .inl (cI, 8, .inl (t 1))) := rfl
theorem hl_wm_3 : (hl_WM b cI cZ t)[3]? = some (b 3, .inl (cI, 8, .inl (t 2))) := rfl
theorem hl_wm_4 : (hl_WM b cI cZ t)[4]? = some (b 4, .inl (cI, 4, .inl (t 3))) := rfl
theorem hl_wm_5 : (hl_WM b cI cZ t)[5]? = some (b 5, .inl (cI, 4, .inl (t 4))) := rfl
theorem hl_wm_6 : (hl_WM b cI cZ t)[6]? = some (b 6, .inl (cI, 4, .inl (t 5))) := rfl
theorem hl_wm_7 : (hl_WM b cI cZ t)[7]? = some (b 7, .inl (cI, 16, .inl (t 9))) := rfl
theorem hl_wm_8 : (hl_WM b cI cZ t)[8]? = some (b 8, .inl (cI, 1208, .inl (t 10))) := rfl
theorem hl_wm_9 : (hl_WM b cI cZ t)[9]? = some (b 9, .inl (cI, 1208, .inl (t 11))) := rfl
theorem hl_wm_10 : (hl_WM b cI cZ t)[10]? = some (b 10, .inl (cI, 80, .inl (t 12))) := rfl
theorem hl_wm_11 : (hl_WM b cI cZ t)[11]? = some (b 11, .inl (cI, 80, .inl (t 13))) := rfl
theorem hl_wm_12 : (hl_WM b cI cZ t)[12]? = some (b 12, .inl (cI, 80, .inl (t 14))) := rfl
theorem hl_wm_13 : (hl_WM b cI cZ t)[13]? = some (b 13, .inl (cI, 80, .inl (t 15))) := rfl
theorem hl_wm_14 : (hl_WM b cI cZ t)[14]? = some (b 14, .inl (cZ, 80, .inl (t 16))) := rfl
theorem hl_wm_15 : (hl_WM b cI cZ t)[15]? = some (b 15, .inl (cI, 80, .inl (t 17))) := rfl
theorem hl_wm_16 : (hl_WM b cI cZ t)[16]? = some (b 16, .inl (cI, 80, .inl (t 19))) := rfl
theorem hl_wm_17 : (hl_WM b cI cZ t)[17]? = some (b 17, .inl (cI, 80, .inl (t 20))) := rfl
theorem hl_wm_18 : (hl_WM b cI cZ t)[18]? = some (b 18, .inl (cI, 80, .inl (t 21))) := rfl
theorem hl_wm_s6 {v : Int32} : (hl_WM b cI cZ t).set 0 (b 0, .inr (6, ([.ref (b 1), .ref (b 2), .ref (b 3), .ref (b 4), .ref (b 5), .ref (b 6), .int (t 6 0), .int (t 7 0), .int (t 8 0), .ref (b 7), .ref (b 8), .ref (b 9), .ref (b 10), .ref (b 11), .ref (b 12), .ref (b 13), .ref (b 14), .ref (b 15), .int (t 18 0), .ref (b 16), .ref (b 17), .ref (b 18), .int (t 22 0), .int (t 23 0)] : List Value).set 6 (.int v))) = hl_WM b cI cZ (hl_su t 6 (fun _ => v)) := rfl
theorem hl_wm_s7 {v : Int32} : (hl_WM b cI cZ t).set 0 (b 0, .inr (6, ([.ref (b 1), .ref (b 2), .ref (b 3), .ref (b 4), .ref (b 5), .ref (b 6), .int (t 6 0), .int (t 7 0), .int (t 8 0), .ref (b 7), .ref (b 8), .ref (b 9), .ref (b 10), .ref (b 11), .ref (b 12), .ref (b 13), .ref (b 14), .ref (b 15), .int (t 18 0), .ref (b 16), .ref (b 17), .ref (b 18), .int (t 22 0), .int (t 23 0)] : List Value).set 7 (.int v))) = hl_WM b cI cZ (hl_su t 7 (fun _ => v)) := rfl
theorem hl_wm_s8 {v : Int32} : (hl_WM b cI cZ t).set 0 (b 0, .inr (6, ([.ref (b 1), .ref (b 2), .ref (b 3), .ref (b 4), .ref (b 5), .ref (b 6), .int (t 6 0), .int (t 7 0), .int (t 8 0), .ref (b 7), .ref (b 8), .ref (b 9), .ref (b 10), .ref (b 11), .ref (b 12), .ref (b 13), .ref (b 14), .ref (b 15), .int (t 18 0), .ref (b 16), .ref (b 17), .ref (b 18), .int (t 22 0), .int (t 23 0)] : List Value).set 8 (.int v))) = hl_WM b cI cZ (hl_su t 8 (fun _ => v)) := rfl
theorem hl_wm_s18 {v : Int32} : (hl_WM b cI cZ t).set 0 (b 0, .inr (6, ([.ref (b 1), .ref (b 2), .ref (b 3), .ref (b 4), .ref (b 5), .ref (b 6), .int (t 6 0), .int (t 7 0), .int (t 8 0), .ref (b 7), .ref (b 8), .ref (b 9), .ref (b 10), .ref (b 11), .ref (b 12), .ref (b 13), .ref (b 14), .ref (b 15), .int (t 18 0), .ref (b 16), .ref (b 17), .ref (b 18), .int (t 22 0), .int (t 23 0)] : List Value).set 18 (.int v))) = hl_WM b cI cZ (hl_su t 18 (fun _ => v)) := rfl
theorem hl_wm_s22 {v : Int32} : (hl_WM b cI cZ t).set 0 (b 0, .inr (6, ([.ref (b 1), .ref (b 2), .ref (b 3), .ref (b 4), .ref (b 5), .ref (b 6), .int (t 6 0), .int (t 7 0), .int (t 8 0), .ref (b 7), .ref (b 8), .ref (b 9), .ref (b 10), .ref (b 11), .ref (b 12), .ref (b 13), .ref (b 14), .ref (b 15), .int (t 18 0), .ref (b 16), .ref (b 17), .ref (b 18), .int (t 22 0), .int (t 23 0)] : List Value).set 22 (.int v))) = hl_WM b cI cZ (hl_su t 22 (fun _ => v)) := rfl
theorem hl_wm_s23 {v : Int32} : (hl_WM b cI cZ t).set 0 (b 0, .inr (6, ([.ref (b 1), .ref (b 2), .ref (b 3), .ref (b 4), .ref (b 5), .ref (b 6), .int (t 6 0), .int (t 7 0), .int (t 8 0), .ref (b 7), .ref (b 8), .ref (b 9), .ref (b 10), .ref (b 11), .ref (b 12), .ref (b 13), .ref (b 14), .ref (b 15), .int (t 18 0), .ref (b 16), .ref (b 17), .ref (b 18), .int (t 22 0), .int (t 23 0)] : List Value).set 23 (.int v))) = hl_WM b cI cZ (hl_su t 23 (fun _ => v)) := rfl
theorem hl_wm_t0 {f : Nat → Int32} : (hl_WM b cI cZ t).set 1 (b 1, .inl (cI, 8, .inl f)) = hl_WM b cI cZ (hl_su t 0 f) := rfl
theorem hl_wm_t1 {f : Nat → Int32} : (hl_WM b cI cZ t).set 2 (b 2, .inl (cI, 8, .inl f)) = hl_WM b cI cZ (hl_su t 1 f) := rfl
theorem hl_wm_t2 {f : Nat → Int32} : (hl_WM b cI cZ t).set 3 (b 3, .inl (cI, 8, .inl f)) = hl_WM b cI cZ (hl_su t 2 f) := rfl
theorem hl_wm_t3 {f : Nat → Int32} : (hl_WM b cI cZ t).set 4 (b 4, .inl (cI, 4, .inl f)) = hl_WM b cI cZ (hl_su t 3 f) := rfl
theorem hl_wm_t4 {f : Nat → Int32} : (hl_WM b cI cZ t).set 5 (b 5, .inl (cI, 4, .inl f)) = hl_WM b cI cZ (hl_su t 4 f) := rfl
theorem hl_wm_t5 {f : Nat → Int32} : (hl_WM b cI cZ t).set 6 (b 6, .inl (cI, 4, .inl f)) = hl_WM b cI cZ (hl_su t 5 f) := rfl
theorem hl_wm_t9 {f : Nat → Int32} : (hl_WM b cI cZ t).set 7 (b 7, .inl (cI, 16, .inl f)) = hl_WM b cI cZ (hl_su t 9 f) := rfl
theorem hl_wm_t10 {f : Nat → Int32} : (hl_WM b cI cZ t).set 8 (b 8, .inl (cI, 1208, .inl f)) = hl_WM b cI cZ (hl_su t 10 f) := rfl
theorem hl_wm_t11 {f : Nat → Int32} : (hl_WM b cI cZ t).set 9 (b 9, .inl (cI, 1208, .inl f)) = hl_WM b cI cZ (hl_su t 11 f) := rfl
theorem hl_wm_t12 {f : Nat → Int32} : (hl_WM b cI cZ t).set 10 (b 10, .inl (cI, 80, .inl f)) = hl_WM b cI cZ (hl_su t 12 f) := rfl
theorem hl_wm_t13 {f : Nat → Int32} : (hl_WM b cI cZ t).set 11 (b 11, .inl (cI, 80, .inl f)) = hl_WM b cI cZ (hl_su t 13 f) := rfl
theorem hl_wm_t14 {f : Nat → Int32} : (hl_WM b cI cZ t).set 12 (b 12, .inl (cI, 80, .inl f)) = hl_WM b cI cZ (hl_su t 14 f) := rfl
theorem hl_wm_t15 {f : Nat → Int32} : (hl_WM b cI cZ t).set 13 (b 13, .inl (cI, 80, .inl f)) = hl_WM b cI cZ (hl_su t 15 f) := rfl
theorem hl_wm_t16 {f : Nat → Int32} : (hl_WM b cI cZ t).set 14 (b 14, .inl (cZ, 80, .inl f)) = hl_WM b cI cZ (hl_su t 16 f) := rfl
theorem hl_wm_t17 {f : Nat → Int32} : (hl_WM b cI cZ t).set 15 (b 15, .inl (cI, 80, .inl f)) = hl_WM b cI cZ (hl_su t 17 f) := rfl
theorem hl_wm_t19 {f : Nat → Int32} : (hl_WM b cI cZ t).set 16 (b 16, .inl (cI, 80, .inl f)) = hl_WM b cI cZ (hl_su t 19 f) := rfl
theorem hl_wm_t20 {f : Nat → Int32} : (hl_WM b cI cZ t).set 17 (b 17, .inl (cI, 80, .inl f)) = hl_WM b cI cZ (hl_su t 20 f) := rfl
theorem hl_wm_t21 {f : Nat → Int32} : (hl_WM b cI cZ t).set 18 (b 18, .inl (cI, 80, .inl f)) = hl_WM b cI cZ (hl_su t 21 f) := rfl
end
