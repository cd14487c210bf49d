/-! the class's table of least trees -/
theorem lwF_at {nb : Nat → Option Nat} {f : Nat → Nat} {q d u : Nat} (h : nb (4 * q + d) = some u) : lwF nb f q d q ≤ f u + 1 ∧ lwF nb f q d q ≤ f q := by
  rw [lwF_some h, va_up_self]
  split <;> omega
theorem lwF_ne {nb : Nat → Option Nat} {f : Nat → Nat} {q d k : Nat} (h : k ≠ q) : lwF nb f q d k = f k := by
  cases h9 : nb (4 * q + d) with
  | none => rw [lwF_none h9]
  | some u => rw [lwF_some h9, va_up_ne _ _ h]
theorem lwF_or {nb : Nat → Option Nat} {f : Nat → Nat} {q d : Nat} : lwF nb f q d q = f q ∨ ∃ u, nb (4 * q + d) = some u ∧ lwF nb f q d q = f u + 1 := by
  cases h9 : nb (4 * q + d) with
  | none => rw [lwF_none h9]; exact Or.inl rfl
  | some u =>
    rw [lwF_some h9, va_up_self]
    split
    · exact Or.inr ⟨u, rfl, rfl⟩
    · exact Or.inl rfl
/-- one cell of the way down the table, and of the way up -/
theorem srU_fix {nb : Nat → Option Nat} {f : Nat → Nat} {q k : Nat} (h : q < k) : srU nb f k q = srU nb f (q + 1) q := by
  induction k with
  | zero => omega
  | succ k ih =>
    by_cases e : q = k
    · rw [e]
    · show lwF nb (lwF nb (srU nb f k) k 0) k 1 q = _
      rw [lwF_ne e, lwF_ne e]; exact ih (by omega)
theorem srU_le {nb : Nat → Option Nat} {f : Nat → Nat} (k z : Nat) : srU nb f k z ≤ f z := by
  induction k with
  | zero => exact Nat.le_refl _
  | succ k ih => exact Nat.le_trans (lwF_le nb _ k 1 z) (Nat.le_trans (lwF_le nb _ k 0 z) ih)
theorem srD_fix {nb : Nat → Option Nat} {f : Nat → Nat} {n q k : Nat} (hq : q < n) (h : n - q ≤ k) (hk : k ≤ n) : srD nb n f k q = srD nb n f (n - q) q := by
  induction k with
  | zero => omega
  | succ k ih =>
    by_cases e : n - q = k + 1
    · rw [e]
    · show lwF nb (lwF nb (srD nb n f k) (n - 1 - k) 2) (n - 1 - k) 3 q = _
      rw [lwF_ne (by omega), lwF_ne (by omega)]; exact ih (by omega) (by omega)
theorem srD_le {nb : Nat → Option Nat} {f : Nat → Nat} {n : Nat} (k z : Nat) : srD nb n f k z ≤ f z := by
  induction k with
  | zero => exact Nat.le_refl _
  | succ k ih => exact Nat.le_trans (lwF_le nb _ _ 3 z) (Nat.le_trans (lwF_le nb _ _ 2 z) ih)
theorem srD_before {nb : Nat → Option Nat} {f : Nat → Nat} {n q k : Nat} (h : k < n - q) : srD nb n f k q = f q := by
  induction k with
  | zero => rfl
  | succ k ih =>
    show lwF nb (lwF nb (srD nb n f k) (n - 1 - k) 2) (n - 1 - k) 3 q = _
    rw [lwF_ne (by omega), lwF_ne (by omega)]; exact ih (by omega)
theorem srU_up {nb : Nat → Option Nat} {f : Nat → Nat} {n q u : Nat} (hq : q < n) (hu : u < q) (h : nb (4 * q) = some u) : srU nb f n q ≤ srU nb f n u + 1 := by
  rw [srU_fix hq]
  show lwF nb (lwF nb (srU nb f q) q 0) q 1 q ≤ _
  have h1 := lwF_le nb (lwF nb (srU nb f q) q 0) q 1 q
  have h2 := (lwF_at (f := srU nb f q) (d := 0) h).1
  rw [srU_fix (show u < n by omega), ← srU_fix hu]
  omega
theorem srU_left {nb : Nat → Option Nat} {f : Nat → Nat} {n q u : Nat} (hq : q < n) (hu : u < q) (h : nb (4 * q + 1) = some u) : srU nb f n q ≤ srU nb f n u + 1 := by
  rw [srU_fix hq]
  show lwF nb (lwF nb (srU nb f q) q 0) q 1 q ≤ _
  have h2 := (lwF_at (f := lwF nb (srU nb f q) q 0) h).1
  rw [lwF_ne (show u ≠ q by omega)] at h2
  rw [srU_fix (show u < n by omega), ← srU_fix hu]
  omega
theorem srD_next {nb : Nat → Option Nat} {f : Nat → Nat} {n q u : Nat} (hu : u < n) (hqu : q < u) : srD nb n f n u = srD nb n f (n - 1 - q) u := by
  rw [srD_fix hu (by omega) (Nat.le_refl _), srD_fix (k := n - 1 - q) hu (by omega) (by omega)]
theorem srD_step {nb : Nat → Option Nat} {f : Nat → Nat} {n q : Nat} (hq : q < n) : srD nb n f n q = lwF nb (lwF nb (srD nb n f (n - 1 - q)) q 2) q 3 q := by
  rw [srD_fix hq (by omega) (Nat.le_refl _), show n - q = (n - 1 - q) + 1 by omega]
  show lwF nb (lwF nb (srD nb n f (n - 1 - q)) (n - 1 - (n - 1 - q)) 2) (n - 1 - (n - 1 - q)) 3 q = _
  rw [show n - 1 - (n - 1 - q) = q by omega]
theorem srD_right {nb : Nat → Option Nat} {f : Nat → Nat} {n q u : Nat} (hq : q < u) (hu : u < n) (h : nb (4 * q + 2) = some u) : srD nb n f n q ≤ srD nb n f n u + 1 := by
  rw [srD_step (by omega), srD_next hu hq]
  have h1 := lwF_le nb (lwF nb (srD nb n f (n - 1 - q)) q 2) q 3 q
  have h2 := (lwF_at (f := srD nb n f (n - 1 - q)) h).1
  omega
theorem srD_down {nb : Nat → Option Nat} {f : Nat → Nat} {n q u : Nat} (hq : q < u) (hu : u < n) (h : nb (4 * q + 3) = some u) : srD nb n f n q ≤ srD nb n f n u + 1 := by
  rw [srD_step (by omega), srD_next hu hq]
  have h2 := (lwF_at (f := lwF nb (srD nb n f (n - 1 - q)) q 2) h).1
  rw [lwF_ne (show u ≠ q by omega)] at h2
  omega
/-- a cell's end value is the one it had, or comes from the right, or from below -/
theorem srD_or {nb : Nat → Option Nat} {f : Nat → Nat} {n q : Nat} (hq : q < n) (hr : ∀ u, nb (4 * q + 2) = some u → q < u ∧ u < n) (hd : ∀ u, nb (4 * q + 3) = some u → q < u ∧ u < n) : srD nb n f n q = f q ∨ (∃ u, nb (4 * q + 2) = some u ∧ srD nb n f n q = srD nb n f n u + 1) ∨ ∃ u, nb (4 * q + 3) = some u ∧ srD nb n f n q = srD nb n f n u + 1 := by
  rw [srD_step hq]
  rcases lwF_or (nb := nb) (f := lwF nb (srD nb n f (n - 1 - q)) q 2) (q := q) (d := 3) with h | ⟨u, h1, h2⟩
  · rw [h]
    rcases lwF_or (nb := nb) (f := srD nb n f (n - 1 - q)) (q := q) (d := 2) with h | ⟨u, h1, h2⟩
    · rw [h, srD_before (by omega)]; exact Or.inl rfl
    · obtain ⟨h3, h4⟩ := hr u h1
      exact Or.inr (Or.inl ⟨u, h1, by rw [h2, srD_next h4 h3]⟩)
  · obtain ⟨h3, h4⟩ := hd u h1
    rw [lwF_ne (show u ≠ q by omega)] at h2
    exact Or.inr (Or.inr ⟨u, h1, by rw [h2, srD_next h4 h3]⟩)
/-- after both ways neighbours differ by one at most -/
theorem spR_lip {w h n : Nat} (hW : WH w h n) (f : Nat → Nat) : ∀ m p, n - p ≤ m → p < n → (p % w + 1 < w → spR (nbW w h) n f (p + 1) ≤ spR (nbW w h) n f p + 1) ∧ (p / w + 1 < h → spR (nbW w h) n f (p + w) ≤ spR (nbW w h) n f p + 1) := by
  have hW2 := hW
  obtain ⟨⟨w1, w2, w3, w4⟩, hnw⟩ := hW2
  have eR : ∀ q, q < n → q % w + 1 < w → nbW w h (4 * q + 2) = some (q + 1) ∧ q + 1 < n := fun q hq hc => ⟨by rw [nbW_right (by rw [← hnw]; exact hq), if_pos hc], (Ed_lt hW (Ed_W.mpr ⟨by rw [← hnw]; exact hq, Or.inr (Or.inr (Or.inl ⟨hc, rfl, rfl⟩))⟩)).2.1⟩
  have eD : ∀ q, q < n → q / w + 1 < h → nbW w h (4 * q + 3) = some (q + w) ∧ q + w < n := fun q hq hc => ⟨by rw [nbW_down (by rw [← hnw]; exact hq), if_pos hc], (Ed_lt hW (Ed_W.mpr ⟨by rw [← hnw]; exact hq, Or.inr (Or.inr (Or.inr ⟨hc, rfl, rfl⟩))⟩)).2.1⟩
  have hr : ∀ q, q < n → ∀ u, nbW w h (4 * q + 2) = some u → q < u ∧ u < n ∧ q % w + 1 < w ∧ u = q + 1 := fun q hq u hu => by
    rw [nbW_right (by rw [← hnw]; exact hq)] at hu
    by_cases hc : q % w + 1 < w
    · rw [if_pos hc] at hu; cases hu; exact ⟨by omega, (eR q hq hc).2, hc, rfl⟩
    · rw [if_neg hc] at hu; cases hu
  have hd : ∀ q, q < n → ∀ u, nbW w h (4 * q + 3) = some u → q < u ∧ u < n ∧ q / w + 1 < h ∧ u = q + w := fun q hq u hu => by
    rw [nbW_down (by rw [← hnw]; exact hq)] at hu
    by_cases hc : q / w + 1 < h
    · rw [if_pos hc] at hu; cases hu; exact ⟨by omega, (eD q hq hc).2, hc, rfl⟩
    · rw [if_neg hc] at hu; cases hu
  have fL : ∀ q, q < n → q % w + 1 < w → srU (nbW w h) f n (q + 1) ≤ srU (nbW w h) f n q + 1 := fun q hq hc => by
    have h1 := (eR q hq hc).2
    refine srU_left h1 (by omega) ?_
    rw [nbW_left (by rw [← hnw]; exact h1)]
    rcases w_cases ⟨w1, w2⟩ with rfl | rfl | rfl | rfl | rfl | rfl | rfl <;> (rw [if_pos (by omega)]; rfl)
  have fU : ∀ q, q < n → q / w + 1 < h → srU (nbW w h) f n (q + w) ≤ srU (nbW w h) f n q + 1 := fun q hq hc => by
    have h1 := (eD q hq hc).2
    refine srU_up h1 (by omega) ?_
    rw [nbW_up (by rw [← hnw]; exact h1), if_pos (by omega), show q + w - w = q by omega]
  have modw : ∀ q, (q + w) % w = q % w ∧ (q + w) / w = q / w + 1 := fun q => ⟨Nat.add_mod_right q w, Nat.add_div_right q (by omega)⟩
  have divr : ∀ q, q % w + 1 < w → (q + 1) / w = q / w := fun q hc => by
    rcases w_cases ⟨w1, w2⟩ with rfl | rfl | rfl | rfl | rfl | rfl | rfl <;> omega
  intro m
  induction m with
  | zero => intro p h1 h2; omega
  | succ m ih =>
    intro p hm hp
    unfold spR at ih ⊢
    rcases srD_or (f := srU (nbW w h) f n) hp (fun u hu => ⟨(hr p hp u hu).1, (hr p hp u hu).2.1⟩) (fun u hu => ⟨(hd p hp u hu).1, (hd p hp u hu).2.1⟩) with e | ⟨u, hu, e⟩ | ⟨u, hu, e⟩
    · refine ⟨fun hc => ?_, fun hc => ?_⟩
      · have h1 := srD_le (nb := nbW w h) (f := srU (nbW w h) f n) (n := n) n (p + 1)
        have h2 := fL p hp hc
        omega
      · have h1 := srD_le (nb := nbW w h) (f := srU (nbW w h) f n) (n := n) n (p + w)
        have h2 := fU p hp hc
        omega
    · obtain ⟨_, h3, h4, rfl⟩ := hr p hp u hu
      refine ⟨fun hc => by omega, fun hc => ?_⟩
      have h5 := (ih (p + 1) (by omega) h3).2 (by rw [divr p h4]; exact hc)
      have h6 := (eD p hp hc).2
      have h7 := eR (p + w) h6 (by rw [(modw p).1]; exact h4)
      have h8 := srD_right (f := srU (nbW w h) f n) (by omega) h7.2 h7.1
      rw [show p + w + 1 = p + 1 + w by omega] at h8
      omega
    · obtain ⟨_, h3, h4, rfl⟩ := hd p hp u hu
      refine ⟨fun hc => ?_, fun hc => by omega⟩
      have h5 := (ih (p + w) (by omega) h3).1 (by rw [(modw p).1]; exact hc)
      have h6 := (eR p hp hc).2
      have h7 := eD (p + 1) h6 (by rw [divr p hc]; exact h4)
      have h8 := srD_down (f := srU (nbW w h) f n) (by omega) h7.2 h7.1
      rw [show p + 1 + w = p + w + 1 by omega] at h8
      omega
