/-! the objects, by the places of their cells: 0 x, 1 grid, 2 capacities, 3 uses, 4 histories, 5 neighbours, 6 bordersTo, 7 leader, 8 costs, 9 distances, 10 tree, 11 leastTable, 12 rows, 13 .. 28 its rows, 29 nets, 30 + 3 i net i, 31 + 3 i its pins, 32 + 3 i its route; 66 model .. -/
abbrev gO (ad : Nat → Nat) (w h n : Nat) : va_E := .inr (0, [.int (iZ ((w : Nat) : Int)), .int (iZ ((h : Nat) : Int)), .int (iZ ((n : Nat) : Int)), .int (iZ ((2 * n : Nat) : Int)), .ref (ad 2), .ref (ad 3), .ref (ad 4), .ref (ad 5), .ref (ad 6)])
abbrev lO (ad : Nat → Nat) : va_E := .inr (1, [.ref (ad 1), .ref (ad 8), .ref (ad 9), .ref (ad 10)])
abbrev tO (ad : Nat → Nat) : va_E := .inr (2, [.ref (ad 1), .ref (ad 12)])
abbrev nO (ad : Nat → Nat) (i pn : Nat) (rl : Int) : va_E := .inr (3, [.ref (ad (31 + 3 * i)), .ref (ad (32 + 3 * i)), .int (iZ ((pn : Nat) : Int)), .int (iZ rl)])
abbrev xO (ad : Nat → Nat) (nc rc : Nat) : va_E := .inr (4, [.ref (ad 1), .ref (ad 7), .ref (ad 11), .ref (ad 29), .int (iZ ((nc : Nat) : Int)), .int (iZ ((rc : Nat) : Int))])
def cnt (p : Nat → Bool) : Nat → Nat
  | 0 => 0
  | n + 1 => cnt p n + (if p n then 1 else 0)
theorem cnt_s (p : Nat → Bool) (n : Nat) : cnt p (n + 1) = cnt p n + (if p n then 1 else 0) := rfl
def sm (f : Nat → Nat) : Nat → Nat
  | 0 => 0
  | n + 1 => sm f n + f n
theorem sm_s (f : Nat → Nat) (n : Nat) : sm f (n + 1) = sm f n + f n := rfl
theorem ni1 {j a : Nat} (h : j ≠ a) : j ∉ [a] := by simp [h]
theorem ni2 {j a b : Nat} (h : j ≠ a) (h2 : j ≠ b) : j ∉ [a, b] := by simp [h, h2]
theorem ni3 {j a b c : Nat} (h : j ≠ a) (h2 : j ≠ b) (h3 : j ≠ c) : j ∉ [a, b, c] := by simp [h, h2, h3]
theorem ni4 {j a b c d : Nat} (h : j ≠ a) (h2 : j ≠ b) (h3 : j ≠ c) (h4 : j ≠ d) : j ∉ [a, b, c, d] := by simp [h, h2, h3, h4]
theorem ni5 {j a b c d e : Nat} (h : j ≠ a) (h2 : j ≠ b) (h3 : j ≠ c) (h4 : j ≠ d) (h5 : j ≠ e) : j ∉ [a, b, c, d, e] := by simp [h, h2, h3, h4, h5]
def bN : Bool → Nat
  | true => 1
  | false => 0
def hB (w h : Nat) (x y : Int) : Bool → Bool
  | true => decide (0 ≤ x ∧ x < (w : Int) ∧ 0 ≤ y ∧ y < (h : Int) - 1)
  | false => decide (0 ≤ x ∧ x < (w : Int) - 1 ∧ 0 ≤ y ∧ y < (h : Int))
theorem hB_no {w h : Nat} {x y : Int} {d : Bool} (h0 : ¬ (0 ≤ x ∧ x < (w : Int) ∧ 0 ≤ y ∧ y < (h : Int))) : hB w h x y d = false := by
  cases d <;> exact decide_eq_false (by omega)
def lnB (w k : Nat) : Bool → Nat → Nat
  | true => fun i => 2 * (i + w * k) + 1
  | false => fun i => 2 * (k + w * i)
def lnN (w h : Nat) : Bool → Nat
  | true => w
  | false => h
def anyB (p : Nat → Bool) : Nat → Bool
  | 0 => false
  | n + 1 => anyB p n || p n
theorem anyB_s (p : Nat → Bool) (n : Nat) : anyB p (n + 1) = (anyB p n || p n) := rfl
theorem anyB_of {p : Nat → Bool} {i n : Nat} (h : i < n) (hp : p i = true) : anyB p n = true := by
  induction n with
  | zero => omega
  | succ n ih =>
    rw [anyB_s]
    by_cases e : i = n
    · subst e; simp [hp]
    · simp [ih (by omega)]
/-- an array that is being rewritten from below: up to i it holds g, from i on f0 -/
theorem upd_hf {α : Type} {f f0 g : Nat → α} {i : Nat} (hf : ∀ k, f k = if k < i then g k else f0 k) : ∀ k, va_up f i (g i) k = if k < i + 1 then g k else f0 k := by
  intro k
  unfold va_up
  by_cases e : k = i
  · subst e; simp
  · rw [if_neg e, hf k]
    by_cases h : k < i
    · rw [if_pos h, if_pos (by omega)]
    · rw [if_neg h, if_neg (by omega)]
theorem upd_hf0 {α : Type} {f f0 g : Nat → α} {i : Nat} (hf : ∀ k, f k = if k < i then g k else f0 k) (hg : g i = f0 i) : ∀ k, f k = if k < i + 1 then g k else f0 k := by
  intro k
  rw [hf k]
  by_cases e : k = i
  · subst e; simp [hg]
  · by_cases h : k < i
    · rw [if_pos h, if_pos (by omega)]
    · rw [if_neg h, if_neg (by omega)]
