/-! what GlobalRoutes' private methods do -/
theorem cnt_le (p : Nat → Bool) (n : Nat) : cnt p n ≤ n := by
  induction n with
  | zero => exact Nat.le_refl _
  | succ n ih => rw [cnt_s]; split <;> omega
def plc (w : Nat) : Bool → Nat → Nat
  | true => fun c => c / w
  | false => fun c => c % w
def acr (w : Nat) (d : Bool) (k pn : Nat) (pi : Nat → Nat) : Bool := anyB (fun j => decide (plc w d (pi j) ≤ k)) pn && anyB (fun j => decide (k < plc w d (pi j))) pn
theorem anyB_t {p : Nat → Bool} {n : Nat} (h : p n = true) : true = anyB p (n + 1) := by
  rw [anyB_s, h, Bool.or_true]
theorem anyB_f {p : Nat → Bool} {n : Nat} {b : Bool} (hb : b = anyB p n) (h : p n = false) : b = anyB p (n + 1) := by
  rw [anyB_s, h, Bool.or_false]; exact hb
theorem sbU_int {us : Nat → Nat} {ro : Nat → Bool} {k : Nat} (h : ro k = true → 1 ≤ us k) : ((sbU us ro k : Nat) : Int) = ((us k : Nat) : Int) + (if ro k = true then -1 else 0) := by
  unfold sbU
  by_cases e : ro k = true
  · have h8 := h e
    rw [if_pos e, if_pos e]
    omega
  · rw [if_neg e, if_neg e]
    omega
