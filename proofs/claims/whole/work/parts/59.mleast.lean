/-! the model's table of least trees -/
def sbF (w : Nat) (pi : Nat → Nat) (s c : Nat) : Nat → Nat
  | 0 => 1000000000
  | k + 1 => if s = 2 ^ k then mh w c (pi k) else sbF w pi s c k
def pv (le : Nat → Nat) (s c p : Nat) : Nat := if p &&& s = p then le (64 * p + c) + le (64 * (s ^^^ p) + c) else 1000000000
def pbF (le : Nat → Nat) (s c B : Nat) : Nat → Nat
  | 0 => B
  | j + 1 => if pv le s c (j + 1) < pbF le s c B j then pv le s c (j + 1) else pbF le s c B j
def f0M (w : Nat) (pi : Nat → Nat) (p : Nat) (le : Nat → Nat) (s : Nat) : Nat → Nat := fun z => pbF le s z (sbF w pi s z p) (s - 1)
theorem shl6 : ∀ i, i < 6 → iZ ((1 : Nat) : Int) <<< (iZ ((i : Nat) : Int) &&& 31) = iZ ((2 ^ i : Nat) : Int) := by decide +kernel
theorem p2_le5 : ∀ i, i < 6 → 2 ^ i ≤ 32 := by decide
theorem sbF_bd {w n : Nat} {pi : Nat → Nat} (hw : 0 < w ∧ w ≤ 8) (hn : n ≤ 64) {s c p : Nat} (hc : c < n) (hpi : ∀ k, k < p → pi k < n) : sbF w pi s c p ≤ 1000000000 := by
  induction p with
  | zero => exact Nat.le_refl _
  | succ p ih =>
    show (if s = 2 ^ p then mh w c (pi p) else sbF w pi s c p) ≤ _
    split
    · have := mh_bd (a := c) (b := pi p) hw (by omega) (by have := hpi p (by omega); omega); omega
    · exact ih (fun k hk => hpi k (by omega))
theorem pbF_bd {le : Nat → Nat} {s c B : Nat} (hB : B ≤ 1000000000) (j : Nat) : pbF le s c B j ≤ 1000000000 := by
  induction j with
  | zero => exact hB
  | succ j ih =>
    show (if _ then _ else _) ≤ _
    split <;> omega
theorem pbF_le {le : Nat → Nat} {s c B : Nat} : ∀ j p, 1 ≤ p → p ≤ j → pbF le s c B j ≤ pv le s c p := by
  intro j
  induction j with
  | zero => intro p h1 h2; omega
  | succ j ih =>
    intro p h1 h2
    show (if pv le s c (j + 1) < pbF le s c B j then pv le s c (j + 1) else pbF le s c B j) ≤ _
    by_cases e : p = j + 1
    · subst e; split <;> omega
    · have := ih p h1 (by omega)
      split <;> omega
theorem pbF_or {le : Nat → Nat} {s c B : Nat} : ∀ j, pbF le s c B j = B ∨ ∃ p, 1 ≤ p ∧ p ≤ j ∧ pbF le s c B j = pv le s c p := by
  intro j
  induction j with
  | zero => exact Or.inl rfl
  | succ j ih =>
    show (if pv le s c (j + 1) < pbF le s c B j then pv le s c (j + 1) else pbF le s c B j) = B ∨ ∃ p, 1 ≤ p ∧ p ≤ j + 1 ∧ (if pv le s c (j + 1) < pbF le s c B j then pv le s c (j + 1) else pbF le s c B j) = pv le s c p
    split
    · exact Or.inr ⟨j + 1, by omega, Nat.le_refl _, rfl⟩
    · rcases ih with h | ⟨p, h1, h2, h3⟩
      · exact Or.inl h
      · exact Or.inr ⟨p, h1, by omega, h3⟩
theorem sbF_no {w s c : Nat} {pi : Nat → Nat} {p : Nat} (h : ∀ k, k < p → s ≠ 2 ^ k) : sbF w pi s c p = 1000000000 := by
  induction p with
  | zero => rfl
  | succ p ih =>
    show (if s = 2 ^ p then _ else sbF w pi s c p) = _
    rw [if_neg (h p (by omega))]
    exact ih (fun k hk => h k (by omega))
theorem sbF_at {w s c k : Nat} {pi : Nat → Nat} {p : Nat} (hk : k < p) (hs : s = 2 ^ k) : sbF w pi s c p = mh w c (pi k) := by
  induction p with
  | zero => omega
  | succ p ih =>
    show (if s = 2 ^ p then mh w c (pi p) else sbF w pi s c p) = _
    by_cases e : k = p
    · rw [if_pos (by rw [hs, e]), e]
    · rw [if_neg (by rw [hs]; exact pw_ne e)]; exact ih (by omega)
theorem bc_pow : ∀ k, k < 5 → bcN (2 ^ k) = 1 := by decide
theorem no_part : ∀ k, k < 5 → ∀ p, p < 32 → 1 ≤ p → p < 2 ^ k → ¬ p &&& 2 ^ k = p := by decide +kernel
/-- the model's row for s, out of the rows below -/
theorem rowM {w n s p : Nat} {pi le g : Nat → Nat} (hw : 0 < w ∧ w ≤ 8) (hn : n ≤ 64) (hp : p ≤ 5) (hpi : ∀ k, k < p → pi k < n) (h1s : 1 ≤ s) (hs : s < 2 ^ p) (hM : ∀ m, 1 ≤ m → m < s → Rw w n pi m (fun z => le (64 * m + z))) (h1 : ∀ z v, z < n → v < n → g v ≤ f0M w pi p le s z + mh w z v) (h2 : Bd w n (f0M w pi p le s) g) : Rw w n pi s g := by
  have h32 : s < 32 := Nat.lt_of_lt_of_le hs (p2_le5 p (by omega))
  by_cases hb : 1 < bcN s
  · have hno : ∀ k, k < p → s ≠ 2 ^ k := fun k hk e => by rw [e, bc_pow k (by omega)] at hb; omega
    refine Rw_more (s := s) (R := fun m z => le (64 * m + z)) (f := f0M w pi p le s) h32 hb (fun q r1 r2 _ => hM q r1 r2) (fun z hz q r1 r2 r3 => ?_) (fun z hz => ?_) h1 h2
    · have h9 := pbF_le (le := le) (s := s) (c := z) (B := sbF w pi s z p) (s - 1) q r1 (by omega)
      unfold pv at h9
      rw [if_pos r3, (sub_xor s h32 q (by omega) r3).1] at h9
      exact h9
    · rcases pbF_or (le := le) (s := s) (c := z) (B := sbF w pi s z p) (s - 1) with h9 | ⟨q, r1, r2, r3⟩
      · exact Or.inl (h9.trans (sbF_no hno))
      · by_cases c : q &&& s = q
        · refine Or.inr ⟨q, r1, by omega, c, r3.trans ?_⟩
          unfold pv
          rw [if_pos c, (sub_xor s h32 q (by omega) c).1]
        · refine Or.inl (r3.trans ?_)
          unfold pv
          rw [if_neg c]
  · obtain ⟨k, hk5, hk⟩ := bc_single s h32 h1s (by omega)
    have hkp : k < p := pw_lt (by omega)
    have hf : ∀ z, z < n → f0M w pi p le s z = mh w z (pi k) := fun z hz => by
      have e1 := sbF_at (w := w) (c := z) (pi := pi) hkp hk
      rcases pbF_or (le := le) (s := s) (c := z) (B := sbF w pi s z p) (s - 1) with h9 | ⟨q, r1, r2, r3⟩
      · exact h9.trans e1
      · exfalso
        have h8 : pv le s z q = 1000000000 := if_neg (by rw [hk]; exact no_part k hk5 q (by omega) r1 (by omega))
        have h7 : ∀ j, pbF le s z (sbF w pi s z p) j ≤ sbF w pi s z p := fun j => by
          induction j with
          | zero => exact Nat.le_refl _
          | succ j ih => show (if _ then _ else _) ≤ _; split <;> omega
        have h6 := h7 (s - 1)
        have h5 := mh_bd (a := z) (b := pi k) hw (by omega) (by have := hpi k hkp; omega)
        omega
    have e : ∀ v, v < n → g v = mh w v (pi k) := fun v hv => by
      have h3 := h1 v v hv hv
      rw [mh_self, hf v hv] at h3
      obtain ⟨z, hz, h4⟩ := h2 v hv
      rw [hf z hz] at h4
      have h5 := mh_tri w v z (pi k)
      have h6 := mh_sym w v z
      omega
    intro v hv
    rw [e v hv, hk]
    exact Rw_one hw hn (hpi k hkp) v hv
theorem Rw.congr {w n m : Nat} {pi f g : Nat → Nat} (h : Rw w n pi m f) (e : ∀ z, z < n → g z = f z) : Rw w n pi m g := fun z hz => by
  rw [e z hz]; exact h z hz
theorem f0_up {f0 le1 le2 : Nat → Nat} {s c : Nat} (hf : ∀ k, le2 k = if 64 * s ≤ k ∧ k < 64 * s + c then f0 (k - 64 * s) else le1 k) : ∀ k, va_up le2 (64 * s + c) (f0 c) k = if 64 * s ≤ k ∧ k < 64 * s + (c + 1) then f0 (k - 64 * s) else le1 k := by
  intro k
  by_cases e : k = 64 * s + c
  · rw [e, va_up_self, if_pos (by omega), show 64 * s + c - 64 * s = c by omega]
  · rw [va_up_ne _ _ e, hf k]
    by_cases h : 64 * s ≤ k ∧ k < 64 * s + c
    · rw [if_pos h, if_pos (by omega)]
    · rw [if_neg h, if_neg (by omega)]
/-- what the spreading keeps -/
def Cl (w n : Nat) (f0 le1 : Nat → Nat) (s c : Nat) (le : Nat → Nat) : Prop := (∀ v, v < n → le (64 * s + v) ≤ f0 v) ∧ Bd w n f0 (fun v => le (64 * s + v)) ∧ (∀ z v, z < c → v < n → le (64 * s + v) ≤ f0 z + mh w z v) ∧ ∀ k, k < 64 * s → le k = le1 k
theorem Cl.step {w n s c t V : Nat} {f0 le1 le : Nat → Nat} (h : Cl w n f0 le1 s c le) (hc : c < n) (ht : t < n) (hD : ∀ v, v < t → le (64 * s + v) ≤ f0 c + mh w c v) (hV : (V = le (64 * s + c) + mh w c t ∨ V = le (64 * s + t)) ∧ V ≤ le (64 * s + t) ∧ V ≤ le (64 * s + c) + mh w c t) : Cl w n f0 le1 s c (va_up le (64 * s + t) V) ∧ ∀ v, v < t + 1 → va_up le (64 * s + t) V (64 * s + v) ≤ f0 c + mh w c v := by
  obtain ⟨h1, h2, h3, h4⟩ := h
  have hle : ∀ k, va_up le (64 * s + t) V k ≤ le k := fun k => by
    by_cases e : k = 64 * s + t
    · rw [e, va_up_self]; exact hV.2.1
    · rw [va_up_ne _ _ e]; exact Nat.le_refl _
  refine ⟨⟨fun v hv => Nat.le_trans (hle _) (h1 v hv), fun v hv => ?_, fun z v hz hv => Nat.le_trans (hle _) (h3 z v hz hv), fun k hk => ?_⟩, fun v hv => ?_⟩
  · show ∃ z, z < n ∧ f0 z + mh w z v ≤ va_up le (64 * s + t) V (64 * s + v)
    by_cases e : v = t
    · subst e
      rw [va_up_self]
      rcases hV.1 with e1 | e1
      · obtain ⟨z, hz, h5⟩ := h2 c hc
        have h5' : f0 z + mh w z c ≤ le (64 * s + c) := h5
        refine ⟨z, hz, ?_⟩
        have h6 := mh_tri w z c v
        omega
      · obtain ⟨z, hz, h5⟩ := h2 v hv
        exact ⟨z, hz, by rw [e1]; exact h5⟩
    · rw [va_up_ne _ _ (by omega)]; exact h2 v hv
  · rw [va_up_ne _ _ (by omega)]; exact h4 k hk
  · by_cases e : v = t
    · subst e
      rw [va_up_self]
      have := h1 c hc
      omega
    · rw [va_up_ne _ _ (by omega)]; exact hD v (by omega)
theorem Cl.next {w n s c : Nat} {f0 le1 le : Nat → Nat} (h : Cl w n f0 le1 s c le) (hD : ∀ v, v < n → le (64 * s + v) ≤ f0 c + mh w c v) : Cl w n f0 le1 s (c + 1) le := ⟨h.1, h.2.1, fun z v hz hv => by
  by_cases e : z = c
  · rw [e]; exact hD v hv
  · exact h.2.2.1 z v (by omega) hv, h.2.2.2⟩
theorem Cl.start {w n s : Nat} {f0 le1 le2 : Nat → Nat} (hn : n ≤ 64) (hf : ∀ k, le2 k = if 64 * s ≤ k ∧ k < 64 * s + n then f0 (k - 64 * s) else le1 k) : Cl w n f0 le1 s 0 le2 := by
  have e : ∀ v, v < n → le2 (64 * s + v) = f0 v := fun v hv => by rw [hf, if_pos (by omega), show 64 * s + v - 64 * s = v by omega]
  refine ⟨fun v hv => by rw [e v hv]; exact Nat.le_refl _, fun v hv => ⟨v, hv, by show f0 v + mh w v v ≤ le2 (64 * s + v); rw [e v hv, mh_self]; exact Nat.le_refl _⟩, fun z v hz => by omega, fun k hk => by rw [hf, if_neg (by omega)]⟩
theorem least_eq {w h n p : Nat} {pi le : Nat → Nat} {rw : Nat → Nat → Nat} (hW : WH w h n) (hp2 : 2 ≤ p) (hp : p ≤ 5) (hpi : ∀ k, k < p → pi k < n) (hM : ∀ m, 1 ≤ m → m < 2 ^ p → Rw w n pi m (fun z => le (64 * m + z))) : le (64 * (2 ^ p - 1) + pi 0) = lsV (nbW w h) w n p pi rw := by
  have h1 : 2 ≤ 2 ^ p := by
    have := Nat.pow_le_pow_right (n := 2) (by omega) (show 1 ≤ p by omega)
    omega
  have h2 := (hM (2 ^ p - 1) (by omega) (by omega) (pi 0) (hpi 0 (by omega))).1
  rw [BX_top] at h2
  exact Mn.root hp2 hpi h2 (lsV_Mn hW hp2 hp hpi)
