/-! more of the model's arrays -/
theorem bN_le (d : Bool) : bN d ≤ 1 := by cases d <;> decide
theorem ub_mb {q : Nat} (d : Bool) (h : q < 64) : ub (q + 64 * bN d) = 2 * q + bN d := by
  have := bN_le d
  unfold ub
  omega
theorem mb_mod {q : Nat} (d : Bool) (h : q < 64) : (q + 64 * bN d) % 64 = q := by
  have := bN_le d
  omega
theorem mA_at {n z q : Nat} {f : Nat → Nat} (d : Bool) (h : q < n) (hn : n ≤ 64) : mA n z f (q + 64 * bN d) = f (2 * q + bN d) := by
  unfold mA
  rw [mb_mod d (by omega), ub_mb d (by omega), if_pos h]
theorem mR_at {n q : Nat} {f : Nat → Bool} (d : Bool) (h : q < n) (hn : n ≤ 64) : mR n f (q + 64 * bN d) = f (2 * q + bN d) := by
  rw [mR_t (by rw [mb_mod d (by omega)]; exact h), ub_mb d (by omega)]
theorem mA_up {n z q v : Nat} {f : Nat → Nat} (d : Bool) (h : q < n) (hn : n ≤ 64) {k : Nat} (hk : k < 128) : va_up (mA n z f) (q + 64 * bN d) v k = mA n z (va_up f (2 * q + bN d) v) k := by
  have := bN_le d
  by_cases e : k = q + 64 * bN d
  · rw [e, va_up_self, mA_at d h hn, va_up_self]
  · rw [va_up_ne _ _ e]
    unfold mA
    by_cases h2 : k % 64 < n
    · rw [if_pos h2, if_pos h2, va_up_ne _ _ (by unfold ub; omega)]
    · rw [if_neg h2, if_neg h2]
/-- a net's routes are being forgotten -/
theorem fg_up {n t i : Nat} {ro : Nat → Nat → Bool} {f : Nat → Bool} (hf : ∀ k, f k = if 128 * t ≤ k ∧ k < 128 * t + i then false else mRo n ro k) : ∀ k, va_up f (128 * t + i) false k = if 128 * t ≤ k ∧ k < 128 * t + (i + 1) then false else mRo n ro k := by
  intro k
  by_cases e : k = 128 * t + i
  · rw [e, va_up_self, if_pos (by omega)]
  · rw [va_up_ne _ _ e, hf k]
    by_cases h : 128 * t ≤ k ∧ k < 128 * t + i
    · rw [if_pos h, if_pos (by omega)]
    · rw [if_neg h, if_neg (by omega)]
theorem fg_end {n t : Nat} {ro : Nat → Nat → Bool} {f : Nat → Bool} (hf : ∀ k, f k = if 128 * t ≤ k ∧ k < 128 * t + 128 then false else mRo n ro k) : ∀ k, f k = mRo n (va_up ro t (fun _ => false)) k := by
  intro k
  rw [hf k]
  unfold mRo
  by_cases e : k / 128 = t
  · rw [if_pos (by omega), e, va_up_self]
    unfold mR
    rw [Bool.and_false]
  · rw [if_neg (by omega), va_up_ne _ _ e]
theorem mHr_up {rl : Nat → Int} {t k : Nat} : va_up (mHr rl) t false k = mHr (va_up rl t (-1)) k := by
  unfold mHr va_up
  by_cases e : k = t
  · simp [e]
  · simp [e]
theorem mHr_upT {rl : Nat → Int} {t k : Nat} {z : Int} (hz : 0 ≤ z) : va_up (mHr rl) t true k = mHr (va_up rl t z) k := by
  unfold mHr va_up
  by_cases e : k = t
  · simp [e]; omega
  · simp [e]
theorem anyB_fa {p : Nat → Bool} {n : Nat} (h : anyB p n = false) {i : Nat} (hi : i < n) : p i = false := by
  cases h9 : p i with
  | false => rfl
  | true => rw [anyB_of hi h9] at h; cases h
theorem mRA {n : Nat} {f : Nat → Bool} {g : Nat → Nat} (b : Nat) : (mR n f b && decide (0 < mA n 0 g b)) = mR n (fun k => f k && decide (0 < g k)) b := by
  unfold mA
  by_cases h : b % 64 < n
  · rw [mR_t h, mR_t h, if_pos h]
  · rw [mR_f h, mR_f h]; rfl
theorem anyR_ub {n : Nat} (hn : n ≤ 64) (f : Nat → Bool) (g : Nat → Nat) : anyB (fun b => mR n f b && decide (0 < mA n 0 g b)) 128 = anyB (fun k => f k && decide (0 < g k)) (2 * n) := by
  rw [anyB_cnt, anyB_cnt, ← cnt_ub hn, cnt_ext (fun i _ => mRA i)]
/-- a net's length is -1 or the number of its borders -/
def RLc (n nc : Nat) (ro : Nat → Nat → Bool) (rl : Nat → Int) : Prop := ∀ i, i < nc → rl i = -1 ∨ rl i = ((cnt (ro i) (2 * n) : Nat) : Int)
/-- a net without a route has no borders -/
def RO0 (n nc : Nat) (ro : Nat → Nat → Bool) (rl : Nat → Int) : Prop := ∀ i, i < nc → rl i = -1 → ∀ k, k < 2 * n → ro i k = false
theorem mRo_no {n t : Nat} {ro : Nat → Nat → Bool} (h : ∀ k, k < 2 * n → ro t k = false) : ∀ k, mRo n ro k = mRo n (va_up ro t (fun _ => false)) k := by
  intro k
  unfold mRo
  by_cases e : k / 128 = t
  · rw [e, va_up_self]
    by_cases h2 : k % 128 % 64 < n
    · rw [mR_t h2, mR_t h2, h _ (ub_lt (Nat.mod_lt _ (by omega)) h2)]
    · rw [mR_f h2, mR_f h2]
  · rw [va_up_ne _ _ e]
theorem mHr_no {rl : Nat → Int} {t : Nat} (h : rl t = -1) : ∀ k, mHr rl k = mHr (va_up rl t (-1)) k := by
  intro k
  unfold mHr
  by_cases e : k = t
  · rw [e, va_up_self, h]
  · rw [va_up_ne _ _ e]
theorem rl_cnt {n nc : Nat} {ro : Nat → Nat → Bool} {rl : Nat → Int} (h1 : RLc n nc ro rl) (h2 : RO0 n nc ro rl) {i : Nat} (hi : i < nc) : (rl i).toNat = cnt (ro i) (2 * n) := by
  rcases h1 i hi with e | e
  · rw [e, cnt_false (h2 i hi e)]; rfl
  · rw [e]; rfl
theorem mP_up {pi : Nat → Nat → Nat} {t j v : Nat} (hj : j < 5) : ∀ k, va_up (mP pi) (5 * t + j) v k = mP (va_up pi t (va_up (pi t) j v)) k := by
  intro k
  unfold mP
  by_cases e : k = 5 * t + j
  · rw [e, va_up_self, show (5 * t + j) / 5 = t by omega, show (5 * t + j) % 5 = j by omega, va_up_self, va_up_self]
  · rw [va_up_ne _ _ e]
    by_cases e2 : k / 5 = t
    · rw [e2, va_up_self, va_up_ne _ _ (by omega)]
    · rw [va_up_ne _ _ e2]
theorem cnt_not (p : Nat → Bool) (n : Nat) : cnt p n + cnt (fun i => !p i) n = n := by
  induction n with
  | zero => rfl
  | succ n ih =>
    rw [cnt_s, cnt_s]
    cases h : p n
    · simp; omega
    · simp; omega
theorem acr_cnt (w : Nat) (d : Bool) (k pn : Nat) (pi : Nat → Nat) : acr w d k pn pi = decide (0 < cnt (fun j => decide (plc w d (pi j) ≤ k)) pn ∧ cnt (fun j => decide (plc w d (pi j) ≤ k)) pn < pn) := by
  have h := cnt_not (fun j => decide (plc w d (pi j) ≤ k)) pn
  have e : cnt (fun j => decide (k < plc w d (pi j))) pn = cnt (fun i => !decide (plc w d (pi i) ≤ k)) pn := cnt_ext (fun i _ => by
    by_cases h9 : plc w d (pi i) ≤ k
    · rw [decide_eq_true h9, decide_eq_false (by omega)]; rfl
    · rw [decide_eq_false h9, decide_eq_true (by omega)]; rfl)
  unfold acr
  rw [anyB_cnt, anyB_cnt, e]
  generalize cnt (fun j => decide (plc w d (pi j) ≤ k)) pn = A at *
  generalize cnt (fun i => !decide (plc w d (pi i) ≤ k)) pn = B at *
  rw [← Bool.decide_and]
  exact decide_eq_decide.mpr (by omega)
theorem not_dec (a : Nat) : (!decide (¬ a = 0)) = decide (a = 0) := by
  by_cases h : a = 0 <;> simp [h]
