/-! least distances: an edge, what is relaxed, what has a witness; they are unique -/
def Ed (nb bt : Nat → Option Nat) (q u b : Nat) : Prop := ∃ j, j < 4 ∧ nb (4 * q + j) = some u ∧ bt (4 * q + j) = some b
def Rx (nb bt : Nat → Option Nat) (n : Nat) (co D : Nat → Nat) : Prop := ∀ q u b, q < n → Ed nb bt q u b → D q ≤ D u + co b
def Uw (nb bt : Nat → Option Nat) (n : Nat) (co : Nat → Nat) (tr : Nat → Bool) (D : Nat → Nat) : Prop := ∀ q, q < n → tr q = false → D q < 1000000000 → ∃ u b, Ed nb bt q u b ∧ D u + co b ≤ D q
def Z0 (n : Nat) (tr : Nat → Bool) (D : Nat → Nat) : Prop := ∀ q, q < n → tr q = true → D q = 0
def DS (nb bt : Nat → Option Nat) (n : Nat) (co : Nat → Nat) (tr : Nat → Bool) (D : Nat → Nat) : Prop := Z0 n tr D ∧ Rx nb bt n co D ∧ ∀ q, q < n → tr q = false → ∃ u b, Ed nb bt q u b ∧ D u + co b = D q
/-- what is wanted of a grid: cells below n, costs, and that all cells hang together -/
def Cn (nb bt : Nat → Option Nat) (n : Nat) : Prop := ∀ (D : Nat → Nat) (C : Nat), (∀ q u b, q < n → Ed nb bt q u b → D q ≤ D u + C) → ∀ q t, q < n → t < n → D q ≤ D t + C * 128
def C1 (n : Nat) (co : Nat → Nat) : Prop := ∀ k, k < 2 * n → 1 ≤ co k ∧ co k ≤ 6000
theorem Ed.lt {nb bt : Nat → Option Nat} {n q u b : Nat} (hNB : NB n nb bt) (h : Ed nb bt q u b) : u < n ∧ b < 2 * n := by
  obtain ⟨j, _, h1, h2⟩ := h
  rcases hNB (4 * q + j) with e | ⟨u', b', e1, e2, h3, h4⟩
  · rw [e] at h1; cases h1
  · rw [e1] at h1; cases h1
    rw [e2] at h2; cases h2
    exact ⟨h3, h4⟩
theorem DS.le {nb bt : Nat → Option Nat} {n : Nat} {co : Nat → Nat} {tr : Nat → Bool} {D D' : Nat → Nat} (hNB : NB n nb bt) (hc : C1 n co) (h : DS nb bt n co tr D) (h' : DS nb bt n co tr D') : ∀ m q, D q ≤ m → q < n → D' q ≤ D q := by
  intro m
  induction m with
  | zero =>
    intro q hm hq
    cases ht : tr q with
    | true => rw [h'.1 q hq ht]; exact Nat.zero_le _
    | false =>
      obtain ⟨u, b, he, hw⟩ := h.2.2 q hq ht
      have := hc b (he.lt hNB).2
      omega
  | succ m ih =>
    intro q hm hq
    cases ht : tr q with
    | true => rw [h'.1 q hq ht]; exact Nat.zero_le _
    | false =>
      obtain ⟨u, b, he, hw⟩ := h.2.2 q hq ht
      have h1 := hc b (he.lt hNB).2
      have h2 := ih u (by omega) (he.lt hNB).1
      have h3 := h'.2.1 q u b hq he
      omega
theorem DS.uniq {nb bt : Nat → Option Nat} {n : Nat} {co : Nat → Nat} {tr : Nat → Bool} {D D' : Nat → Nat} (hNB : NB n nb bt) (hc : C1 n co) (h : DS nb bt n co tr D) (h' : DS nb bt n co tr D') (q : Nat) (hq : q < n) : D q = D' q :=
  Nat.le_antisymm (h'.le hNB hc h _ q (Nat.le_refl _) hq) (h.le hNB hc h' _ q (Nat.le_refl _) hq)
/-- relaxed, witnessed and connected -/
theorem DS.of {nb bt : Nat → Option Nat} {n : Nat} {co : Nat → Nat} {tr : Nat → Bool} {D : Nat → Nat} (hNB : NB n nb bt) (hC : Cn nb bt n) (hc : C1 n co) {t : Nat} (ht : t < n) (htr : tr t = true) (hz : Z0 n tr D) (hr : Rx nb bt n co D) (hu : Uw nb bt n co tr D) : DS nb bt n co tr D := by
  refine ⟨hz, hr, fun q hq hf => ?_⟩
  have h1 := hC D 6000 (fun q u b hq he => by
    have h2 := hr q u b hq he
    have h3 := (hc b (he.lt hNB).2).2
    omega) q t hq ht
  rw [hz t ht htr] at h1
  obtain ⟨u, b, he, hw⟩ := hu q hq hf (by omega)
  have h4 := hr q u b hq he
  exact ⟨u, b, he, by omega⟩
/-! the class's sweeps -/
theorem bst_edge {nb bt : Nat → Option Nat} {di co : Nat → Nat} {q u b : Nat} (j : Nat) {i : Nat} (hi : i < j) (h1 : nb (4 * q + i) = some u) (h2 : bt (4 * q + i) = some b) : bst nb bt di co q j ≤ di u + co b := by
  induction j with
  | zero => omega
  | succ j ih =>
    by_cases e : i = j
    · subst e
      rw [bst_some (dth_some h1 h2)]
      split <;> omega
    · have h3 := ih (by omega)
      cases h : dth nb bt di co (4 * q + j) with
      | none => rw [bst_none h]; exact h3
      | some d => rw [bst_some h]; split <;> omega
theorem bst_or {nb bt : Nat → Option Nat} {di co : Nat → Nat} {q : Nat} (j : Nat) : bst nb bt di co q j = di q ∨ ∃ i u b, i < j ∧ nb (4 * q + i) = some u ∧ bt (4 * q + i) = some b ∧ bst nb bt di co q j = di u + co b := by
  induction j with
  | zero => exact Or.inl rfl
  | succ j ih =>
    have hold : bst nb bt di co q (j + 1) = bst nb bt di co q j → bst nb bt di co q (j + 1) = di q ∨ ∃ i u b, i < j + 1 ∧ nb (4 * q + i) = some u ∧ bt (4 * q + i) = some b ∧ bst nb bt di co q (j + 1) = di u + co b := fun e => by
      rcases ih with h | ⟨i, u, b, h1, h2, h3, h4⟩
      · exact Or.inl (e.trans h)
      · exact Or.inr ⟨i, u, b, by omega, h2, h3, e.trans h4⟩
    cases h : dth nb bt di co (4 * q + j) with
    | none => exact hold (bst_none h)
    | some d =>
      by_cases hlt : d < bst nb bt di co q j
      · have h5 : bst nb bt di co q (j + 1) = d := by rw [bst_some h, if_pos hlt]
        have h6 := h
        unfold dth at h6
        cases hn : nb (4 * q + j) with
        | none => rw [hn] at h6; cases h6
        | some u =>
          cases hb : bt (4 * q + j) with
          | none => rw [hn, hb] at h6; cases h6
          | some b =>
            rw [hn, hb] at h6
            cases h6
            exact Or.inr ⟨j, u, b, by omega, hn, hb, h5⟩
      · exact hold (by rw [bst_some h, if_neg hlt])
theorem low_le (nb bt : Nat → Option Nat) (co di : Nat → Nat) (q k : Nat) : low nb bt co di q k ≤ di k := by
  unfold low
  by_cases e : k = q
  · rw [e, va_up_self]; exact bst_le nb bt di co q 4
  · rw [va_up_ne _ _ e]; exact Nat.le_refl _
theorem low_Z0 {nb bt : Nat → Option Nat} {n : Nat} {co di : Nat → Nat} {tr : Nat → Bool} {q : Nat} (h : Z0 n tr di) : Z0 n tr (low nb bt co di q) := fun k hk ht => by
  have h1 := low_le nb bt co di q k
  rw [h k hk ht] at h1
  omega
theorem low_Uw {nb bt : Nat → Option Nat} {n : Nat} {co di : Nat → Nat} {tr : Nat → Bool} {q : Nat} (h : Uw nb bt n co tr di) : Uw nb bt n co tr (low nb bt co di q) := fun k hk ht hlt => by
  have keep : ∀ v, di k ≤ v → di k < 1000000000 → ∃ u b, Ed nb bt k u b ∧ low nb bt co di q u + co b ≤ v := fun v hv h9 => by
    obtain ⟨u, b, he, hw⟩ := h k hk ht h9
    have := low_le nb bt co di q u
    exact ⟨u, b, he, by omega⟩
  by_cases e : k = q
  · have e2 : low nb bt co di q k = bst nb bt di co q 4 := by rw [e]; unfold low; rw [va_up_self]
    rw [e2] at hlt ⊢
    rcases bst_or (nb := nb) (bt := bt) (di := di) (co := co) (q := q) 4 with h1 | ⟨i, u, b, h1, h2, h3, h4⟩
    · rw [h1] at hlt ⊢
      exact keep _ (by rw [e]; exact Nat.le_refl _) (by rw [e]; exact hlt)
    · have := low_le nb bt co di q u
      exact ⟨u, b, ⟨i, h1, by rw [e]; exact h2, by rw [e]; exact h3⟩, by omega⟩
  · have e2 : low nb bt co di q k = di k := by unfold low; rw [va_up_ne _ _ e]
    rw [e2] at hlt ⊢
    exact keep _ (Nat.le_refl _) hlt
theorem swU_le (nb bt : Nat → Option Nat) (co di : Nat → Nat) (k z : Nat) : swU nb bt co di k z ≤ di z := by
  induction k with
  | zero => exact Nat.le_refl _
  | succ k ih => exact Nat.le_trans (low_le nb bt co _ k z) ih
theorem swD_le (nb bt : Nat → Option Nat) (co : Nat → Nat) (n : Nat) (di : Nat → Nat) (k z : Nat) : swD nb bt co n di k z ≤ di z := by
  induction k with
  | zero => exact Nat.le_refl _
  | succ k ih => exact Nat.le_trans (low_le nb bt co _ _ z) ih
theorem swU_anti (nb bt : Nat → Option Nat) (co di : Nat → Nat) {k m : Nat} (h : k ≤ m) (z : Nat) : swU nb bt co di m z ≤ swU nb bt co di k z := by
  obtain ⟨d, rfl⟩ : ∃ d, m = k + d := ⟨m - k, by omega⟩
  clear h
  induction d with
  | zero => exact Nat.le_refl _
  | succ d ih => exact Nat.le_trans (low_le nb bt co _ _ z) ih
theorem prD_le (nb bt : Nat → Option Nat) (co : Nat → Nat) (n : Nat) (di : Nat → Nat) (z : Nat) : prD nb bt co n di z ≤ di z := Nat.le_trans (swD_le nb bt co n _ n z) (swU_le nb bt co di n z)
theorem itP_anti (nb bt : Nat → Option Nat) (co : Nat → Nat) (n : Nat) (di : Nat → Nat) {k m : Nat} (h : k ≤ m) (z : Nat) : itP nb bt co n di m z ≤ itP nb bt co n di k z := by
  obtain ⟨d, rfl⟩ : ∃ d, m = k + d := ⟨m - k, by omega⟩
  clear h
  induction d with
  | zero => exact Nat.le_refl _
  | succ d ih => exact Nat.le_trans (prD_le nb bt co n _ z) ih
theorem itP_shift (nb bt : Nat → Option Nat) (co : Nat → Nat) (n : Nat) (di : Nat → Nat) (k : Nat) : itP nb bt co n (prD nb bt co n di) k = itP nb bt co n di (k + 1) := by
  induction k with
  | zero => rfl
  | succ k ih => show prD nb bt co n (itP nb bt co n (prD nb bt co n di) k) = prD nb bt co n (itP nb bt co n di (k + 1)); rw [ih]
theorem prD_inv {P : (Nat → Nat) → Prop} {nb bt : Nat → Option Nat} {co : Nat → Nat} {n : Nat} (hP : ∀ D q, P D → P (low nb bt co D q)) {di : Nat → Nat} (h : P di) : P (prD nb bt co n di) := by
  have h1 : ∀ k, P (swU nb bt co di k) := fun k => by
    induction k with
    | zero => exact h
    | succ k ih => exact hP _ _ ih
  have h2 : ∀ k, P (swD nb bt co n (swU nb bt co di n) k) := fun k => by
    induction k with
    | zero => exact h1 n
    | succ k ih => exact hP _ _ ih
  exact h2 n
theorem itP_inv {P : (Nat → Nat) → Prop} {nb bt : Nat → Option Nat} {co : Nat → Nat} {n : Nat} (hP : ∀ D q, P D → P (low nb bt co D q)) {di : Nat → Nat} (h : P di) (k : Nat) : P (itP nb bt co n di k) := by
  induction k with
  | zero => exact h
  | succ k ih => exact prD_inv hP ih
/-- one sweep lowers a cell at least to what its neighbour had, and the way there -/
theorem prD_edge {nb bt : Nat → Option Nat} {co di : Nat → Nat} {n q u b : Nat} (hq : q < n) (he : Ed nb bt q u b) : prD nb bt co n di q ≤ di u + co b := by
  obtain ⟨j, hj, h1, h2⟩ := he
  have h3 : swU nb bt co di (q + 1) q ≤ di u + co b := by
    show low nb bt co (swU nb bt co di q) q q ≤ _
    unfold low
    rw [va_up_self]
    have h4 := bst_edge (di := swU nb bt co di q) (co := co) 4 hj h1 h2
    have h5 := swU_le nb bt co di q u
    omega
  have h6 := swU_anti nb bt co di (show q + 1 ≤ n by omega) q
  have h7 := swD_le nb bt co n (swU nb bt co di n) n q
  show swD nb bt co n (swU nb bt co di n) n q ≤ _
  omega
theorem prD_out {nb bt : Nat → Option Nat} {co di : Nat → Nat} {n z : Nat} (hz : n ≤ z) : prD nb bt co n di z = di z := by
  have h1 : ∀ k, k ≤ n → swU nb bt co di k z = di z := fun k hk => by
    induction k with
    | zero => rfl
    | succ k ih => show va_up (swU nb bt co di k) k _ z = _; rw [va_up_ne _ _ (by omega)]; exact ih (by omega)
  have h2 : ∀ k, k ≤ n → swD nb bt co n (swU nb bt co di n) k z = di z := fun k hk => by
    induction k with
    | zero => exact h1 n (Nat.le_refl _)
    | succ k ih => show va_up (swD nb bt co n (swU nb bt co di n) k) (n - 1 - k) _ z = _; rw [va_up_ne _ _ (by omega)]; exact ih (by omega)
  exact h2 n (Nat.le_refl _)
theorem sm_le {f g : Nat → Nat} {n : Nat} (h : ∀ i, i < n → f i ≤ g i) : sm f n ≤ sm g n := by
  induction n with
  | zero => exact Nat.le_refl _
  | succ n ih => rw [sm_s, sm_s]; have := ih (fun i hi => h i (by omega)); have := h n (by omega); omega
theorem sm_lt {f g : Nat → Nat} {n i : Nat} (h : ∀ i, i < n → f i ≤ g i) (hi : i < n) (hlt : f i < g i) : sm f n < sm g n := by
  induction n with
  | zero => omega
  | succ n ih =>
    rw [sm_s, sm_s]
    have h1 := h n (by omega)
    by_cases e : i = n
    · subst e; have := sm_le (n := i) (fun j hj => h j (by omega)); omega
    · have := ih (fun j hj => h j (by omega)) (by omega); omega
theorem all_or {n : Nat} {P : Nat → Prop} : (∀ i, i < n → P i) ∨ ∃ i, i < n ∧ ¬ P i := by
  by_cases h : ∀ i, i < n → P i
  · exact Or.inl h
  · refine Or.inr (Classical.byContradiction fun h2 => h (fun i hi => Classical.byContradiction fun h3 => h2 ⟨i, hi, h3⟩))
theorem itP_fix (nb bt : Nat → Option Nat) (co : Nat → Nat) (n : Nat) : ∀ (s : Nat) (di : Nat → Nat), sm di n ≤ s → ∃ K, prD nb bt co n (itP nb bt co n di K) = itP nb bt co n di K := by
  intro s
  induction s with
  | zero =>
    intro di hs
    refine ⟨0, funext fun z => ?_⟩
    rcases all_or (n := n) (P := fun i => prD nb bt co n di i = di i) with h | ⟨i, hi, hne⟩
    · by_cases hz : z < n
      · exact h z hz
      · exact prD_out (by omega)
    · have h1 := prD_le nb bt co n di i
      have h2 := sm_lt (f := prD nb bt co n di) (g := di) (fun j _ => prD_le nb bt co n di j) hi (by omega)
      omega
  | succ s ih =>
    intro di hs
    rcases all_or (n := n) (P := fun i => prD nb bt co n di i = di i) with h | ⟨i, hi, hne⟩
    · refine ⟨0, funext fun z => ?_⟩
      by_cases hz : z < n
      · exact h z hz
      · exact prD_out (by omega)
    · have h1 := prD_le nb bt co n di i
      have h2 := sm_lt (f := prD nb bt co n di) (g := di) (fun j _ => prD_le nb bt co n di j) hi (by omega)
      obtain ⟨K, hK⟩ := ih (prD nb bt co n di) (by omega)
      rw [itP_shift] at hK
      exact ⟨K + 1, hK⟩
theorem min_ex {n : Nat} (f : Nat → Nat) (P : Nat → Prop) : ∀ m, (∃ q, q < n ∧ P q ∧ f q ≤ m) → ∃ q, q < n ∧ P q ∧ ∀ u, u < n → f u < f q → ¬ P u := by
  intro m
  induction m with
  | zero => rintro ⟨q, h1, h2, h3⟩; exact ⟨q, h1, h2, fun u _ h4 => by omega⟩
  | succ m ih =>
    rintro ⟨q, h1, h2, h3⟩
    by_cases h : ∃ u, u < n ∧ f u < f q ∧ P u
    · obtain ⟨u, h4, h5, h6⟩ := h
      exact ih ⟨u, h4, h6, by omega⟩
    · exact ⟨q, h1, h2, fun u h4 h5 h6 => h ⟨u, h4, h5, h6⟩⟩
theorem cnt_mono {p q : Nat → Bool} {n : Nat} (h : ∀ i, i < n → p i = true → q i = true) : cnt p n ≤ cnt q n := by
  induction n with
  | zero => exact Nat.le_refl _
  | succ n ih =>
    rw [cnt_s, cnt_s]
    have h1 := ih (fun i hi => h i (by omega))
    cases hp : p n with
    | false => simp; omega
    | true => rw [h n (by omega) hp]; omega
theorem cnt_lt {p q : Nat → Bool} {n i : Nat} (h : ∀ i, i < n → p i = true → q i = true) (hi : i < n) (h1 : p i = false) (h2 : q i = true) : cnt p n < cnt q n := by
  induction n with
  | zero => omega
  | succ n ih =>
    rw [cnt_s, cnt_s]
    by_cases e : i = n
    · subst e
      have h3 := cnt_mono (p := p) (q := q) (n := i) (fun j hj => h j (by omega))
      rw [h1, h2]; simp; omega
    · have h3 := ih (fun j hj => h j (by omega)) (by omega)
      cases hp : p n with
      | false => simp; omega
      | true => rw [h n (by omega) hp]; omega
theorem cnt_true (n : Nat) : cnt (fun _ => true) n = n := by
  induction n with
  | zero => rfl
  | succ n ih => rw [cnt_s, ih]; rfl
theorem cnt_all {p : Nat → Bool} {n : Nat} (h : n ≤ cnt p n) : ∀ i, i < n → p i = true := by
  induction n with
  | zero => intro i hi; omega
  | succ n ih =>
    rw [cnt_s] at h
    have h1 := cnt_le p n
    cases hp : p n with
    | false => rw [hp] at h; simp at h; omega
    | true =>
      rw [hp] at h; simp at h
      intro i hi
      by_cases e : i = n
      · rw [e]; exact hp
      · exact ih h i (by omega)
/-- n sweeps are enough -/
theorem itP_DS {nb bt : Nat → Option Nat} {n : Nat} {co : Nat → Nat} {tr : Nat → Bool} {di : Nat → Nat} (hNB : NB n nb bt) (hC : Cn nb bt n) (hc : C1 n co) {t : Nat} (ht : t < n) (htr : tr t = true) (hz : Z0 n tr di) (hu : Uw nb bt n co tr di) : DS nb bt n co tr (itP nb bt co n di n) := by
  obtain ⟨K, hK⟩ := itP_fix nb bt co n (sm di n) di (Nat.le_refl _)
  have hZ : ∀ k, Z0 n tr (itP nb bt co n di k) := itP_inv (P := Z0 n tr) (fun D q h => low_Z0 h) hz
  have hU : ∀ k, Uw nb bt n co tr (itP nb bt co n di k) := itP_inv (P := Uw nb bt n co tr) (fun D q h => low_Uw h) hu
  have hT : DS nb bt n co tr (itP nb bt co n di K) := DS.of hNB hC hc ht htr (hZ K) (fun q u b hq he => by
    have h1 := prD_edge (co := co) (di := itP nb bt co n di K) hq he
    rw [hK] at h1
    exact h1) (hU K)
  have hge : ∀ k z, itP nb bt co n di K z ≤ itP nb bt co n di k z := fun k z => by
    by_cases h : k ≤ K
    · exact itP_anti nb bt co n di h z
    · rw [itP_stop hK k (by omega)]; exact Nat.le_refl _
  have hcnt : ∀ k, k ≤ n → k ≤ cnt (fun q => decide (itP nb bt co n di k q = itP nb bt co n di K q)) n := fun k => by
    induction k with
    | zero => intro _; exact Nat.zero_le _
    | succ k ih =>
      intro hk
      have h0 := ih (by omega)
      have hmono : ∀ i, i < n → decide (itP nb bt co n di k i = itP nb bt co n di K i) = true → decide (itP nb bt co n di (k + 1) i = itP nb bt co n di K i) = true := fun i _ h => by
        have h1 := of_decide_eq_true h
        have h2 := itP_anti nb bt co n di (show k ≤ k + 1 by omega) i
        have h3 := hge (k + 1) i
        exact decide_eq_true (by omega)
      rcases all_or (n := n) (P := fun i => itP nb bt co n di k i = itP nb bt co n di K i) with h | ⟨i, hi, hne⟩
      · have h1 : cnt (fun q => decide (itP nb bt co n di k q = itP nb bt co n di K q)) n = n := by
          rw [cnt_ext (q := fun _ => true) (fun i hi => decide_eq_true (h i hi))]
          exact cnt_true n
        have h2 := cnt_mono hmono
        omega
      · obtain ⟨q, hq, hPq, hmin⟩ := min_ex (n := n) (itP nb bt co n di K) (fun q => ¬ itP nb bt co n di k q = itP nb bt co n di K q) _ ⟨i, hi, hne, Nat.le_refl _⟩
        have hf : tr q = false := by
          cases htq : tr q with
          | false => rfl
          | true => exact absurd ((hZ k q hq htq).trans (hZ K q hq htq).symm) hPq
        obtain ⟨u, b, he, hw⟩ := hT.2.2 q hq hf
        have h1 := (hc b (he.lt hNB).2).1
        have h2 : itP nb bt co n di k u = itP nb bt co n di K u := Classical.byContradiction (hmin u (he.lt hNB).1 (by omega))
        have h3 := prD_edge (co := co) (di := itP nb bt co n di k) hq he
        have h4 := hge (k + 1) q
        have h5 : itP nb bt co n di (k + 1) q = itP nb bt co n di K q := by
          have h6 : itP nb bt co n di (k + 1) q = prD nb bt co n (itP nb bt co n di k) q := rfl
          omega
        have h7 := cnt_lt hmono hq (decide_eq_false hPq) (decide_eq_true h5)
        omega
  have hall := cnt_all (hcnt n (Nat.le_refl _))
  have hE : ∀ q, q < n → itP nb bt co n di n q = itP nb bt co n di K q := fun q hq => of_decide_eq_true (hall q hq)
  refine DS.of hNB hC hc ht htr (hZ n) (fun q u b hq he => ?_) (hU n)
  rw [hE q hq, hE u (he.lt hNB).1]
  exact hT.2.1 q u b hq he
