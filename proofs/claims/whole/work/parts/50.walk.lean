/-! the way into the tree -/
def sR (n : Nat) (co : Nat → Nat) (R : Nat → Bool) : Nat := sm (fun k => if R k = true then co k else 0) (2 * n)
theorem sR_up {n : Nat} {co : Nat → Nat} {R : Nat → Bool} {b : Nat} (hb : b < 2 * n) (hR : R b = false) : sR n co (va_up R b true) = sR n co R + co b := by
  unfold sR
  have h1 := sm_up (f := fun k => if R k = true then co k else 0) (a := b) (v := co b) hb
  have h2 : (fun k => if va_up R b true k = true then co k else 0) = va_up (fun k => if R k = true then co k else 0) b (co b) := by
    funext k
    by_cases e : k = b
    · rw [e, va_up_self, va_up_self, if_pos rfl]
    · rw [va_up_ne _ _ e, va_up_ne _ _ e]
  rw [h2]
  have h3 : (if R b = true then co b else 0) = 0 := by rw [if_neg (by rw [hR]; decide)]
  have h4 : sm (va_up (fun k => if R k = true then co k else 0) b (co b)) (2 * n) + (if R b = true then co b else 0) = sm (fun k => if R k = true then co k else 0) (2 * n) + co b := h1
  omega
theorem stp_keep {nb bt : Nat → Option Nat} {di co : Nat → Nat} {q j : Nat} (h : ¬ dth nb bt di co (4 * q + j) = some (di q)) : stp nb bt di co q (j + 1) = stp nb bt di co q j := by
  cases hs : stp nb bt di co q j with
  | none => exact stp_no hs h
  | some k =>
    show (match stp nb bt di co q j with | some k => _ | none => _) = _
    rw [hs]
theorem stp_keep2 {nb bt : Nat → Option Nat} {di co : Nat → Nat} {q j k : Nat} (hs : stp nb bt di co q j = some k) : stp nb bt di co q (j + 1) = some k := by
  show (match stp nb bt di co q j with | some k => _ | none => _) = _
  rw [hs]
theorem dth_of {nb bt : Nat → Option Nat} {di co : Nat → Nat} {k d : Nat} (h : dth nb bt di co k = some d) : ∃ u b, nb k = some u ∧ bt k = some b ∧ di u + co b = d := by
  unfold dth at h
  cases hn : nb k with
  | none => rw [hn] at h; cases h
  | some u =>
    cases hb : bt k with
    | none => rw [hn, hb] at h; cases h
    | some b => rw [hn, hb] at h; cases h; exact ⟨u, b, rfl, rfl, rfl⟩
def sN (w h : Nat) (di co : Nat → Nat) (q j : Nat) : Option Nat := (stp (nbW w h) (btW w h) di co q j).bind (nbW w h)
def sB (w h : Nat) (di co : Nat → Nat) (q j : Nat) : Option Nat := ((stp (nbW w h) (btW w h) di co q j).bind (btW w h)).map mbI
theorem sN_none {w h : Nat} {di co : Nat → Nat} {q j : Nat} (hz : oZ (sN w h di co q j) = -1) : stp (nbW w h) (btW w h) di co q j = none := by
  cases hs : stp (nbW w h) (btW w h) di co q j with
  | none => rfl
  | some k =>
    obtain ⟨u, b, h1, _, _⟩ := dth_of (stp_of j hs).2.2
    unfold sN at hz
    rw [hs] at hz
    have h2 : oZ (nbW w h k) = -1 := hz
    rw [h1] at h2
    have h3 : ((u : Nat) : Int) = -1 := h2
    omega
theorem sN_some {w h : Nat} {di co : Nat → Nat} {q j : Nat} (hz : ¬ oZ (sN w h di co q j) = -1) : ∃ k, stp (nbW w h) (btW w h) di co q j = some k := by
  cases hs : stp (nbW w h) (btW w h) di co q j with
  | none => exfalso; apply hz; unfold sN; rw [hs]; rfl
  | some k => exact ⟨k, rfl⟩
theorem nbt_none {w h k : Nat} (hn : nbW w h k = none) : btW w h k = none := by
  unfold nbW at hn
  unfold btW
  (repeat' split at hn) <;> (try omega) <;> simp_all <;> omega
theorem stp_ex {nb bt : Nat → Option Nat} {di co : Nat → Nat} {q u b : Nat} (he : Ed nb bt q u b) (hd : di u + co b = di q) : ∃ k u2 b2, stp nb bt di co q 4 = some k ∧ nb k = some u2 ∧ bt k = some b2 ∧ di u2 + co b2 = di q ∧ Ed nb bt q u2 b2 := by
  cases hs : stp nb bt di co q 4 with
  | none =>
    exfalso
    obtain ⟨j, hj, h1, h2⟩ := he
    have key : ∀ m, m ≤ 4 → stp nb bt di co q m = none := by
      intro m
      induction m with
      | zero => intro _; rfl
      | succ m ih =>
        intro hm
        cases h3 : stp nb bt di co q m with
        | none =>
          by_cases h4 : dth nb bt di co (4 * q + m) = some (di q)
          · rw [stp_yes h3 h4 4 (by omega)] at hs; cases hs
          · exact stp_no h3 h4
        | some k => rw [ih (by omega)] at h3; cases h3
    have h5 : dth nb bt di co (4 * q + j) = some (di q) := by rw [dth_some h1 h2, hd]
    rw [stp_yes (key j (by omega)) h5 4 hj] at hs
    cases hs
  | some k =>
    obtain ⟨h1, h2, h3⟩ := stp_of 4 hs
    obtain ⟨u2, b2, h4, h5, h6⟩ := dth_of h3
    exact ⟨k, u2, b2, rfl, h4, h5, h6, k - 4 * q, by omega, by rw [show 4 * q + (k - 4 * q) = k by omega]; exact h4, by rw [show 4 * q + (k - 4 * q) = k by omega]; exact h5⟩
/-- borders that are taken lie at cells of the tree; on the way, also behind the cell where one stands -/
def CL (nb bt : Nat → Option Nat) (n : Nat) (tr ro : Nat → Bool) : Prop := ∀ q u b, q < n → tr q = false → Ed nb bt q u b → ro b = false
def CLw (nb bt : Nat → Option Nat) (n : Nat) (D : Nat → Nat) (tr ro : Nat → Bool) (c : Nat) : Prop := ∀ q u b, q < n → tr q = false → Ed nb bt q u b → ro b = true → q = c ∧ D c < D u
theorem CL.w {nb bt : Nat → Option Nat} {n : Nat} {D : Nat → Nat} {tr ro : Nat → Bool} {c : Nat} (h : CL nb bt n tr ro) : CLw nb bt n D tr ro c := fun q u b hq ht he hr => by
  rw [h q u b hq ht he] at hr; cases hr
theorem CLw.end {nb bt : Nat → Option Nat} {n : Nat} {D : Nat → Nat} {tr ro : Nat → Bool} {c : Nat} (h : CLw nb bt n D tr ro c) (hc : tr c = true) : CL nb bt n tr ro := fun q u b hq ht he => by
  cases hr : ro b with
  | false => rfl
  | true => rw [(h q u b hq ht he hr).1, hc] at ht; cases ht
theorem CLw.new {nb bt : Nat → Option Nat} {n : Nat} {D : Nat → Nat} {tr ro : Nat → Bool} {c u b : Nat} (h : CLw nb bt n D tr ro c) (hc : c < n) (ht : tr c = false) (he : Ed nb bt c u b) (hd : D u < D c) : ro b = false := by
  cases hr : ro b with
  | false => rfl
  | true => have := (h c u b hc ht he hr).2; omega
theorem CLw.step {w h n : Nat} (hw : 2 ≤ w) {D : Nat → Nat} {tr ro : Nat → Bool} {c u b : Nat} (hC : CLw (nbW w h) (btW w h) n D tr ro c) (he : Ed (nbW w h) (btW w h) c u b) (hd : D u < D c) : CLw (nbW w h) (btW w h) n D (va_up tr c true) (va_up ro b true) u := by
  intro q' u' b' hq' ht' he' hr'
  have hne : q' ≠ c := fun e => by rw [e, va_up_self] at ht'; cases ht'
  rw [va_up_ne _ _ hne] at ht'
  by_cases e : b' = b
  · subst e
    rcases Ed_uniq hw he he' with ⟨e1, e2⟩ | ⟨e1, e2⟩
    · exact absurd e1 hne
    · exact ⟨e1, by rw [e2]; exact hd⟩
  · rw [va_up_ne _ _ e] at hr'
    exact absurd (hC q' u' b' hq' ht' he' hr').1 hne
theorem mR_up {n b : Nat} {R : Nat → Bool} (hn : n ≤ 64) (hb : b < 2 * n) {k : Nat} (hk : k < 128) : va_up (mR n R) (mbI b) true k = mR n (va_up R b true) k := by
  have e1 : mbI b % 64 = b / 2 := by unfold mbI; omega
  have e2 : ub (mbI b) = b := by unfold ub; rw [e1]; unfold mbI; omega
  by_cases e : k = mbI b
  · rw [e, va_up_self, mR_t (by omega), e2, va_up_self]
  · rw [va_up_ne _ _ e]
    by_cases h2 : k % 64 < n
    · rw [mR_t h2, mR_t h2, va_up_ne _ _ (by intro z; apply e; unfold ub at z; unfold mbI; omega)]
    · rw [mR_f h2, mR_f h2]
