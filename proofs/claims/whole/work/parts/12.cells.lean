/-! the objects, by the places of their cells: 0 x, 1 grid, 2 capacities, 3 uses, 4 histories, 5 neighbours, 6 bordersTo, 7 leader, 8 costs, 9 distances, 10 tree, 11 leastTable, 12 rows, 13 .. 28 its rows, 29 nets, 30 + 3 i net i, 31 + 3 i its pins, 32 + 3 i its route; 66 model .. -/
abbrev gO (ad : Nat → Nat) (w h n : Nat) : va_E := .inr (0, [.int (iZ ((w : Nat) : Int)), .int (iZ ((h : Nat) : Int)), .int (iZ ((n : Nat) : Int)), .int (iZ ((2 * n : Nat) : Int)), .ref (ad 2), .ref (ad 3), .ref (ad 4), .ref (ad 5), .ref (ad 6)])
abbrev lO (ad : Nat → Nat) : va_E := .inr (1, [.ref (ad 1), .ref (ad 8), .ref (ad 9), .ref (ad 10)])
abbrev tO (ad : Nat → Nat) : va_E := .inr (2, [.ref (ad 1), .ref (ad 12)])
abbrev nO (ad : Nat → Nat) (i pn : Nat) (rl : Int) : va_E := .inr (3, [.ref (ad (31 + 3 * i)), .ref (ad (32 + 3 * i)), .int (iZ ((pn : Nat) : Int)), .int (iZ rl)])
abbrev xO (ad : Nat → Nat) (nc rc : Nat) : va_E := .inr (4, [.ref (ad 1), .ref (ad 7), .ref (ad 11), .ref (ad 29), .int (iZ ((nc : Nat) : Int)), .int (iZ ((rc : Nat) : Int))])
def cnt (p : Nat → Bool) : Nat → Nat
  | 0 => 0
  | n + 1 => cnt p n + (if p n then 1 else 0)
theorem cnt_s (p : Nat → Bool) (n : Nat) : cnt p (n + 1) = cnt p n + (if p n then 1 else 0) := rfl
def sm (f : Nat → Nat) : Nat → Nat
  | 0 => 0
  | n + 1 => sm f n + f n
theorem sm_s (f : Nat → Nat) (n : Nat) : sm f (n + 1) = sm f n + f n := rfl
