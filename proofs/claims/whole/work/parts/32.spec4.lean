/-! a round: uses, routes and lengths of the nets, one after the other -/
abbrev RS : Type := (Nat → Nat) × (Nat → Nat → Bool) × (Nat → Int)
def rtN (nb bt : Nat → Option Nat) (n : Nat) (cap hi : Nat → Nat) (pn : Nat) (pi us : Nat → Nat) (ro : Nat → Bool) : Nat → Bool := (jn nb bt (coF cap (sbU us ro) hi) pi n pn (pn - 1) (diS (pi 0)) (trS (pi 0)) (fun _ => false)).2.2
def ldS (nb bt : Nat → Option Nat) (n : Nat) (cap hi : Nat → Nat) (pn : Nat → Nat) (pi : Nat → Nat → Nat) (t : Nat) (S : RS) : RS := (adU (sbU S.1 (S.2.1 t)) (rtN nb bt n cap hi (pn t) (pi t) S.1 (S.2.1 t)), va_up S.2.1 t (rtN nb bt n cap hi (pn t) (pi t) S.1 (S.2.1 t)), va_up S.2.2 t ((cnt (rtN nb bt n cap hi (pn t) (pi t) S.1 (S.2.1 t)) (2 * n) : Nat) : Int))
def ndB (n : Nat) (cap : Nat → Nat) (pn : Nat → Nat) (t : Nat) (S : RS) : Bool := decide (2 ≤ pn t) && (!(decide (¬ S.2.2 t = -1)) || anyB (fun k => S.2.1 t k && decide (0 < S.1 k - cap k)) (2 * n))
def plS (nb bt : Nat → Option Nat) (n : Nat) (cap hi : Nat → Nat) (pn : Nat → Nat) (pi : Nat → Nat → Nat) (S : RS) : Nat → RS
  | 0 => S
  | i + 1 => if ndB n cap pn i (plS nb bt n cap hi pn pi S i) = true then ldS nb bt n cap hi pn pi i (plS nb bt n cap hi pn pi S i) else plS nb bt n cap hi pn pi S i
theorem plS_s (nb bt : Nat → Option Nat) (n : Nat) (cap hi : Nat → Nat) (pn : Nat → Nat) (pi : Nat → Nat → Nat) (S : RS) (i : Nat) : plS nb bt n cap hi pn pi S (i + 1) = if ndB n cap pn i (plS nb bt n cap hi pn pi S i) = true then ldS nb bt n cap hi pn pi i (plS nb bt n cap hi pn pi S i) else plS nb bt n cap hi pn pi S i := rfl
/-- uses are counted, a net without a route has no borders -/
def Inv (n nc : Nat) (S : RS) : Prop := (∀ k, k < 2 * n → S.1 k = cnt (fun i => S.2.1 i k) nc) ∧ (∀ i, i < nc → S.2.2 i = -1 → ∀ k, k < 2 * n → S.2.1 i k = false) ∧ ∀ i, i < nc → -1 ≤ S.2.2 i ∧ S.2.2 i ≤ 128
theorem cnt_pos {p : Nat → Bool} {t n : Nat} (h : t < n) (hp : p t = true) : 1 ≤ cnt p n := by
  induction n with
  | zero => omega
  | succ n ih =>
    rw [cnt_s]
    by_cases e : t = n
    · subst e; rw [if_pos hp]; omega
    · have := ih (by omega); omega
theorem cnt_ext {p q : Nat → Bool} {n : Nat} (h : ∀ i, i < n → p i = q i) : cnt p n = cnt q n := by
  induction n with
  | zero => rfl
  | succ n ih => rw [cnt_s, cnt_s, ih (fun i hi => h i (by omega)), h n (by omega)]
theorem cnt_up {p : Nat → Bool} {t n : Nat} {b : Bool} (h : t < n) : cnt (va_up p t b) n + (if p t = true then 1 else 0) = cnt p n + (if b = true then 1 else 0) := by
  induction n with
  | zero => omega
  | succ n ih =>
    rw [cnt_s, cnt_s]
    by_cases e : t = n
    · subst e
      rw [va_up_self, cnt_ext (p := va_up p t b) (q := p) (fun i hi => va_up_ne p b (by omega))]
      omega
    · have := ih (by omega)
      rw [va_up_ne p b (show n ≠ t by omega)]
      omega
theorem Inv.us {n nc : Nat} {S : RS} (h : Inv n nc S) (hnc : nc ≤ 12) : ∀ k, k < 2 * n → S.1 k ≤ 12 := fun k hk => by
  rw [h.1 k hk]
  exact Nat.le_trans (cnt_le _ _) hnc
theorem Inv.uro {n nc : Nat} {S : RS} (h : Inv n nc S) {t : Nat} (ht : t < nc) : ∀ k, k < 2 * n → S.2.1 t k = true → 1 ≤ S.1 k := fun k hk e => by
  rw [h.1 k hk]
  exact cnt_pos (p := fun i => S.2.1 i k) ht e
theorem Inv.ld {n nc : Nat} {S : RS} (h : Inv n nc S) (hn : n ≤ 64) {t : Nat} (ht : t < nc) (r : Nat → Bool) : Inv n nc (adU (sbU S.1 (S.2.1 t)) r, va_up S.2.1 t r, va_up S.2.2 t ((cnt r (2 * n) : Nat) : Int)) := by
  obtain ⟨h1, h2, h3⟩ := h
  refine ⟨fun k hk => ?_, fun i hi e k hk => ?_, fun i hi => ?_⟩
  · show S.1 k - _ + _ = cnt (fun i => va_up S.2.1 t r i k) nc
    have e1 : (fun i => va_up S.2.1 t r i k) = va_up (fun i => S.2.1 i k) t (r k) := by
      funext i
      unfold va_up
      split <;> rfl
    rw [e1]
    have h9 := cnt_up (p := fun i => S.2.1 i k) (b := r k) ht
    have h8 : S.2.1 t k = true → 1 ≤ S.1 k := fun e => by rw [h1 k hk]; exact cnt_pos (p := fun i => S.2.1 i k) ht e
    rw [← h1 k hk] at h9
    by_cases e : S.2.1 t k = true
    · have := h8 e
      simp only [e, if_true] at h9 ⊢
      omega
    · simp only [e] at h9 ⊢
      simp at h9 ⊢
      omega
  · have e' : va_up S.2.2 t ((cnt r (2 * n) : Nat) : Int) i = -1 := e
    show va_up S.2.1 t r i k = false
    by_cases e9 : i = t
    · subst e9; rw [va_up_self] at e'; omega
    · rw [va_up_ne _ _ e9] at e'
      rw [va_up_ne _ _ e9]
      exact h2 i hi e' k hk
  · show -1 ≤ va_up S.2.2 t _ i ∧ va_up S.2.2 t _ i ≤ 128
    by_cases e9 : i = t
    · subst e9; rw [va_up_self]
      have := cnt_le r (2 * n)
      omega
    · rw [va_up_ne _ _ e9]; exact h3 i hi
