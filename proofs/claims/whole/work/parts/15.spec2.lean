/-! what LeastTable's methods do, as functions -/
def lwF (nb : Nat → Option Nat) (f : Nat → Nat) (q d : Nat) : Nat → Nat := match nb (4 * q + d) with
  | none => f
  | some u => va_up f q (if f u + 1 < f q then f u + 1 else f q)
theorem lwF_none {nb : Nat → Option Nat} {f : Nat → Nat} {q d : Nat} (h : nb (4 * q + d) = none) : lwF nb f q d = f := by
  unfold lwF; rw [h]
theorem lwF_some {nb : Nat → Option Nat} {f : Nat → Nat} {q d u : Nat} (h : nb (4 * q + d) = some u) : lwF nb f q d = va_up f q (if f u + 1 < f q then f u + 1 else f q) := by
  unfold lwF; rw [h]
theorem lwF_le (nb : Nat → Option Nat) (f : Nat → Nat) (q d : Nat) : ∀ k, lwF nb f q d k ≤ f k := by
  intro k
  cases h : nb (4 * q + d) with
  | none => rw [lwF_none h]; exact Nat.le_refl _
  | some u =>
    rw [lwF_some h]
    unfold va_up
    by_cases e : k = q
    · rw [if_pos e, e]; split <;> omega
    · rw [if_neg e]; exact Nat.le_refl _
theorem lwF_bd {nb : Nat → Option Nat} {f : Nat → Nat} {q d B : Nat} (h : ∀ k, f k ≤ B) : ∀ k, lwF nb f q d k ≤ B := fun k => Nat.le_trans (lwF_le nb f q d k) (h k)
def srU (nb : Nat → Option Nat) (f : Nat → Nat) : Nat → (Nat → Nat)
  | 0 => f
  | k + 1 => lwF nb (lwF nb (srU nb f k) k 0) k 1
def srD (nb : Nat → Option Nat) (n : Nat) (f : Nat → Nat) : Nat → (Nat → Nat)
  | 0 => f
  | k + 1 => lwF nb (lwF nb (srD nb n f k) (n - 1 - k) 2) (n - 1 - k) 3
def spR (nb : Nat → Option Nat) (n : Nat) (f : Nat → Nat) : Nat → Nat := srD nb n (srU nb f n) n
theorem srU_bd {nb : Nat → Option Nat} {f : Nat → Nat} {B : Nat} (h : ∀ k, f k ≤ B) (i : Nat) : ∀ k, srU nb f i k ≤ B := by
  induction i with
  | zero => exact h
  | succ i ih => exact lwF_bd (lwF_bd ih)
theorem srD_bd {nb : Nat → Option Nat} {f : Nat → Nat} {n B : Nat} (h : ∀ k, f k ≤ B) (i : Nat) : ∀ k, srD nb n f i k ≤ B := by
  induction i with
  | zero => exact h
  | succ i ih => exact lwF_bd (lwF_bd ih)
theorem spR_bd {nb : Nat → Option Nat} {f : Nat → Nat} {n B : Nat} (h : ∀ k, f k ≤ B) : ∀ k, spR nb n f k ≤ B := srD_bd (srU_bd h n) n
def tkL (f g h : Nat → Nat) : Nat → Nat := fun k => if g k + h k < f k then g k + h k else f k
theorem tkL_bd {f g h : Nat → Nat} {B : Nat} (hf : ∀ k, f k ≤ B) : ∀ k, tkL f g h k ≤ B := fun k => by
  have h1 := hf k
  show (if g k + h k < f k then g k + h k else f k) ≤ B
  split <;> omega
def fpA (rw : Nat → Nat → Nat) (s : Nat) : Nat → (Nat → Nat)
  | 0 => fun _ => 1000000000
  | j + 1 => if (j + 1) &&& s = j + 1 ∧ j + 1 < s - (j + 1) then tkL (fpA rw s j) (rw (j + 1)) (rw (s - (j + 1))) else fpA rw s j
theorem fpA_s (rw : Nat → Nat → Nat) (s j : Nat) : fpA rw s (j + 1) = if (j + 1) &&& s = j + 1 ∧ j + 1 < s - (j + 1) then tkL (fpA rw s j) (rw (j + 1)) (rw (s - (j + 1))) else fpA rw s j := rfl
theorem fpA_bd (rw : Nat → Nat → Nat) (s j : Nat) : ∀ k, fpA rw s j k ≤ 1000000000 := by
  induction j with
  | zero => intro k; exact Nat.le_refl _
  | succ j ih =>
    rw [fpA_s]
    split
    · exact tkL_bd ih
    · exact ih
def mhF (w n q : Nat) : Nat → Nat := fun c => if c < n then mh w c q else 0
def lt1 (w n : Nat) (pi : Nat → Nat) (rw : Nat → Nat → Nat) : Nat → (Nat → Nat → Nat)
  | 0 => rw
  | i + 1 => va_up (lt1 w n pi rw i) (2 ^ i) (mhF w n (pi i))
def lt2 (nb : Nat → Option Nat) (n : Nat) (rw : Nat → Nat → Nat) : Nat → (Nat → Nat → Nat)
  | 0 => rw
  | j + 1 => if 1 < bcN (j + 1) then va_up (lt2 nb n rw j) (j + 1) (spR nb n (fpA (lt2 nb n rw j) (j + 1) (j + 1 - 1))) else lt2 nb n rw j
theorem lt2_s (nb : Nat → Option Nat) (n : Nat) (rw : Nat → Nat → Nat) (j : Nat) : lt2 nb n rw (j + 1) = if 1 < bcN (j + 1) then va_up (lt2 nb n rw j) (j + 1) (spR nb n (fpA (lt2 nb n rw j) (j + 1) (j + 1 - 1))) else lt2 nb n rw j := rfl
def lsR (nb : Nat → Option Nat) (w n pn : Nat) (pi : Nat → Nat) (rw : Nat → Nat → Nat) : Nat → Nat → Nat := if pn < 2 then rw else lt2 nb n (lt1 w n pi rw (pn - 1)) (2 ^ (pn - 1) - 1)
def lsV (nb : Nat → Option Nat) (w n pn : Nat) (pi : Nat → Nat) (rw : Nat → Nat → Nat) : Nat := if pn < 2 then 0 else lsR nb w n pn pi rw (2 ^ (pn - 1) - 1) (pi (pn - 1))
theorem mh_bd {w a b : Nat} (hw : 0 < w ∧ w ≤ 8) (ha : a < 64) (hb : b < 64) : mh w a b ≤ 128 := by
  have h1 := Nat.mod_lt a hw.1
  have h2 := Nat.mod_lt b hw.1
  have h3 := Nat.div_le_self a w
  have h4 := Nat.div_le_self b w
  unfold mh
  generalize a % w = m1 at *
  generalize b % w = m2 at *
  generalize a / w = d1 at *
  generalize b / w = d2 at *
  omega
theorem p2_lt : ∀ i, i < 5 → 2 ^ i < 32 := by decide
theorem p2_lt4 : ∀ i, i < 4 → 2 ^ i < 16 := by decide
theorem p2_le : ∀ i, i < 5 → 2 ^ i ≤ 16 := by decide
theorem p2_pos (i : Nat) : 1 ≤ 2 ^ i := Nat.one_le_two_pow
theorem bcN_le (n : Nat) : bcN n ≤ 5 := by unfold bcN; omega
theorem mh_bd2 {w a b : Nat} (hw : 0 < w ∧ w ≤ 8) (hb : b < 64) : mh w a b ≤ a + 128 := by
  have h1 := Nat.mod_lt a hw.1
  have h2 := Nat.mod_lt b hw.1
  have h3 := Nat.div_le_self a w
  have h4 := Nat.div_le_self b w
  unfold mh
  generalize a % w = m1 at *
  generalize b % w = m2 at *
  generalize a / w = d1 at *
  generalize b / w = d2 at *
  omega
theorem bcN_two : ∀ n, 1 < bcN n → 2 < n := by
  intro n h
  unfold bcN at h
  omega
theorem va_up_bd2 {f : Nat → Nat → Nat} {q B : Nat} {g : Nat → Nat} (h : ∀ s k, f s k ≤ B) (hg : ∀ k, g k ≤ B) : ∀ s k, va_up f q g s k ≤ B := by
  intro s k
  unfold va_up
  split
  · exact hg k
  · exact h s k
theorem mhF_bd {w n q : Nat} (hw : 0 < w ∧ w ≤ 8) (hn : n ≤ 64) (hq : q < 64) : ∀ k, mhF w n q k ≤ 1000000000 := by
  intro k
  unfold mhF
  split
  · have := mh_bd2 (a := k) hw hq
    omega
  · omega
theorem lt1_bd {w n : Nat} {pi : Nat → Nat} {rw : Nat → Nat → Nat} (hw : 0 < w ∧ w ≤ 8) (hn : n ≤ 64) (hp : ∀ k, pi k < 64) (h : ∀ s k, rw s k ≤ 1000000000) (i : Nat) : ∀ s k, lt1 w n pi rw i s k ≤ 1000000000 := by
  induction i with
  | zero => exact h
  | succ i ih => exact va_up_bd2 ih (mhF_bd hw hn (hp i))
theorem lt2_bd {nb : Nat → Option Nat} {n : Nat} {rw : Nat → Nat → Nat} (h : ∀ s k, rw s k ≤ 1000000000) (j : Nat) : ∀ s k, lt2 nb n rw j s k ≤ 1000000000 := by
  induction j with
  | zero => exact h
  | succ j ih =>
    rw [lt2_s]
    split
    · exact va_up_bd2 ih (spR_bd (fpA_bd _ _ _))
    · exact ih
theorem lsR_bd {nb : Nat → Option Nat} {w n pn : Nat} {pi : Nat → Nat} {rw : Nat → Nat → Nat} (hw : 0 < w ∧ w ≤ 8) (hn : n ≤ 64) (hp : ∀ k, pi k < 64) (h : ∀ s k, rw s k ≤ 1000000000) : ∀ s k, lsR nb w n pn pi rw s k ≤ 1000000000 := by
  unfold lsR
  split
  · exact h
  · exact lt2_bd (lt1_bd hw hn hp h _) _
