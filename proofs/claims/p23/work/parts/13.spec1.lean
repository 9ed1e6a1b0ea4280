/-! What the small methods of the class answer (r_) and do to the contents (f_), by their own roads; b_: one step of a loop -/
abbrev hl_i (x : Int32) : Nat := x.toNatClampNeg
def f_X4_change (g : Nat → Nat → Int32) (x y n q : Int32) : Nat → Nat → Int32 :=
  hl_su (hl_su g 0 (upd (g 0) (x * 2 + y).toNatClampNeg n)) 1 (upd (g 1) (x * 2 + y).toNatClampNeg q)
def f_X4_addSleeper (g : Nat → Nat → Int32) (x y : Int32) : Nat → Nat → Int32 := hl_su g 2 (upd (g 2) (x * 2 + y).toNatClampNeg (g 2 (x * 2 + y).toNatClampNeg + 1))
def b_X4_endNight (k : Nat) (z : Nat → Nat → Int32) : Nat → Nat → Int32 := hl_su z 2 (upd (z 2) k 0)
def f_X4_endNight (g : Nat → Nat → Int32) : Nat → Nat → Int32 := hl_it b_X4_endNight 0 8 g
def r_X4_freeOf (g : Nat → Nat → Int32) (x y : Int32) : Int32 := if 0 < (g 0 (x * 2 + y).toNatClampNeg) - (g 2 (x * 2 + y).toNatClampNeg) then (g 0 (x * 2 + y).toNatClampNeg) - (g 2 (x * 2 + y).toNatClampNeg) else 0
def f_X2_addClean (g : Nat → Nat → Int32) (x n : Int32) : Nat → Nat → Int32 := hl_su g 3 (upd (g 3) x.toNatClampNeg (g 3 x.toNatClampNeg + n))
def r_X2_awayOf (g : Nat → Nat → Int32) (x : Int32) : Int32 := g 4 x.toNatClampNeg + g 5 x.toNatClampNeg + g 6 x.toNatClampNeg + g 7 x.toNatClampNeg
def b_X2_giverFor (g : Nat → Nat → Int32) (k : Nat) (z : Int32 × Int32) : Int32 × Int32 := if g 3 k ≤ z.2 then z else (nI k, g 3 k)
def r_X2_giverFor (g : Nat → Nat → Int32) (x : Int32) : Int32 := if g 3 x.toNatClampNeg ≤ 0 then (hl_it (b_X2_giverFor g) 0 4 (-1, 0)).1 else x
def f_X2_take (g : Nat → Nat → Int32) (x y : Int32) : Nat → Nat → Int32 :=
  let g1 := hl_su g 3 (upd (g 3) y.toNatClampNeg (g 3 y.toNatClampNeg - 1))
  let g2 := hl_su g1 4 (upd (g1 4) x.toNatClampNeg (g1 4 x.toNatClampNeg + 1))
  if y = x then g2 else hl_su g2 9 (fun _ => g2 9 0 + 1)
def b_X2_endNight (k : Nat) (g : Nat → Nat → Int32) : Nat → Nat → Int32 :=
  let g1 := hl_su g 7 (upd (g 7) k (g 7 k + g 6 k))
  let g2 := hl_su g1 6 (upd (g1 6) k (g1 5 k))
  let g3 := hl_su g2 5 (upd (g2 5) k (g2 4 k))
  let g4 := hl_su g3 4 (upd (g3 4) k 0)
  let g5 := hl_su g4 3 (upd (g4 3) k (g4 3 k + g4 7 k))
  if g4 8 0 = 0 then hl_su g5 7 (upd (g5 7) k 0) else g4
def f_X2_endNight (g : Nat → Nat → Int32) : Nat → Nat → Int32 := hl_su (hl_it b_X2_endNight 0 4 g) 9 (fun _ => 0)
def f_X0_add (g : Nat → Nat → Int32) (x y z v : Int32) : Nat → Nat → Int32 :=
  let g1 := hl_su g 10 (upd (g 10) (g 16 0).toNatClampNeg x)
  let g2 := hl_su g1 11 (upd (g1 11) (g 16 0).toNatClampNeg y)
  let g3 := hl_su g2 12 (upd (g2 12) (g 16 0).toNatClampNeg z)
  let g4 := hl_su g3 13 (upd (g3 13) (g 16 0).toNatClampNeg v)
  let g5 := hl_su g4 15 (upd (g4 15) (g 16 0).toNatClampNeg (-1))
  hl_su g5 16 (fun _ => g5 16 0 + 1)
def f_X0_arrive (g : Nat → Nat → Int32) (x y : Int32) : Nat → Nat → Int32 :=
  let g1 := hl_su g 14 (upd (g 14) x.toNatClampNeg 1)
  hl_su g1 15 (upd (g1 15) x.toNatClampNeg y)
def b_X0_countFor (g : Nat → Nat → Int32) (x y z : Int32) (k : Nat) (n : Int32) : Int32 := if g 11 k = x ∧ g 12 k = y ∧ g 13 k = z then n + 1 else n
def b_X0_missedIn (g : Nat → Nat → Int32) (x : Int32) (k : Nat) (n : Int32) : Int32 := if g 13 k = x ∧ g 14 k = 0 then n + 1 else n
def b_X0_missedAt (g : Nat → Nat → Int32) (x y z : Int32) (k : Nat) (n : Int32) : Int32 := if g 11 k = x ∧ ¬ g 13 k < y ∧ ¬ z ≤ g 13 k ∧ g 14 k = 0 then n + 1 else n
def b_X0_sleepersAt (g : Nat → Nat → Int32) (x y z : Int32) (k : Nat) (n : Int32) : Int32 := if g 15 k = x ∧ g 12 k = y ∧ g 13 k = z then n + 1 else n
def f_X3_add (g : Nat → Nat → Int32) (x y z : Int32) : Nat → Nat → Int32 :=
  let g1 := hl_su g 17 (upd (g 17) (g 20 0).toNatClampNeg x)
  let g2 := hl_su g1 18 (upd (g1 18) (g 20 0).toNatClampNeg y)
  let g3 := hl_su g2 19 (upd (g2 19) (g 20 0).toNatClampNeg z)
  if g 20 0 < 80 then hl_su g3 20 (fun _ => g3 20 0 + 1) else g
def b_X3_ofGuest (g : Nat → Nat → Int32) (x : Int32) (k : Nat) (n : Int32) : Int32 := if g 17 k = x then n + g 19 k else n
def r_X3_takeFrom (g : Nat → Nat → Int32) (x y n : Int32) : Int32 := if g 17 x.toNatClampNeg = y then (if n < g 19 x.toNatClampNeg then n else g 19 x.toNatClampNeg) else 0
def f_X3_takeFrom (g : Nat → Nat → Int32) (x y n : Int32) : Nat → Nat → Int32 := if g 17 x.toNatClampNeg = y then hl_su g 19 (upd (g 19) x.toNatClampNeg (g 19 x.toNatClampNeg - (if n < g 19 x.toNatClampNeg then n else g 19 x.toNatClampNeg))) else g
def f_X1_receive (g : Nat → Nat → Int32) (x n : Int32) : Nat → Nat → Int32 := hl_su g 21 (upd (g 21) x.toNatClampNeg (g 21 x.toNatClampNeg + n))
def f_X1_owe (g : Nat → Nat → Int32) (x y n : Int32) : Nat → Nat → Int32 :=
  let g1 := hl_su g 22 (upd (g 22) (x * 4 + y).toNatClampNeg (g 22 (x * 4 + y).toNatClampNeg + n))
  hl_su g1 22 (upd (g1 22) (y * 4 + x).toNatClampNeg (g1 22 (y * 4 + x).toNatClampNeg - n))
def r_X1_between (g : Nat → Nat → Int32) (x y : Int32) : Int32 := if 0 < g 22 (x * 4 + y).toNatClampNeg then g 22 (x * 4 + y).toNatClampNeg else 0
def f_X1_pay (g : Nat → Nat → Int32) (x y : Int32) : Nat → Nat → Int32 :=
  let g1 := hl_su g 21 (upd (g 21) x.toNatClampNeg (g 21 x.toNatClampNeg - r_X1_between g x y))
  let g2 := hl_su g1 21 (upd (g1 21) y.toNatClampNeg (g1 21 y.toNatClampNeg + r_X1_between g x y))
  f_X1_owe g2 y x (r_X1_between g x y)
def b_X1_payIn (i : Nat) (k : Nat) (z : (Nat → Nat → Int32) × Int32) : (Nat → Nat → Int32) × Int32 := (f_X1_pay z.1 (nI i) (nI k), z.2 + r_X1_between z.1 (nI i) (nI k))
def b_X1_payAll (i : Nat) (z : (Nat → Nat → Int32) × Int32) : (Nat → Nat → Int32) × Int32 := hl_it (b_X1_payIn i) 0 4 z
