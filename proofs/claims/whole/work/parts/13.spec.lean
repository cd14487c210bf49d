/-! what the Leader's methods do, as functions -/
def oZ : Option Nat → Int
  | none => -1
  | some k => ((k : Nat) : Int)
/-- neighbours and borders to them: both there or neither -/
def NB (n : Nat) (nb bt : Nat → Option Nat) : Prop := ∀ k, nb k = none ∨ ∃ u b, nb k = some u ∧ bt k = some b ∧ u < n ∧ b < 2 * n
def dth (nb bt : Nat → Option Nat) (di co : Nat → Nat) (k : Nat) : Option Nat := match nb k, bt k with
  | some u, some b => some (di u + co b)
  | _, _ => none
theorem dth_some {nb bt : Nat → Option Nat} {di co : Nat → Nat} {k u b : Nat} (hu : nb k = some u) (hb : bt k = some b) : dth nb bt di co k = some (di u + co b) := by
  unfold dth; rw [hu, hb]
theorem dth_none {nb bt : Nat → Option Nat} {di co : Nat → Nat} {k : Nat} (hu : nb k = none) : dth nb bt di co k = none := by
  unfold dth; rw [hu]
def bst (nb bt : Nat → Option Nat) (di co : Nat → Nat) (q : Nat) : Nat → Nat
  | 0 => di q
  | j + 1 => match dth nb bt di co (4 * q + j) with
    | some d => if d < bst nb bt di co q j then d else bst nb bt di co q j
    | none => bst nb bt di co q j
theorem bst_some {nb bt : Nat → Option Nat} {di co : Nat → Nat} {q j d : Nat} (h : dth nb bt di co (4 * q + j) = some d) : bst nb bt di co q (j + 1) = if d < bst nb bt di co q j then d else bst nb bt di co q j := by
  show (match dth nb bt di co (4 * q + j) with | some d => _ | none => _) = _
  rw [h]
theorem bst_none {nb bt : Nat → Option Nat} {di co : Nat → Nat} {q j : Nat} (h : dth nb bt di co (4 * q + j) = none) : bst nb bt di co q (j + 1) = bst nb bt di co q j := by
  show (match dth nb bt di co (4 * q + j) with | some d => _ | none => _) = _
  rw [h]
theorem bst_le (nb bt : Nat → Option Nat) (di co : Nat → Nat) (q j : Nat) : bst nb bt di co q j ≤ di q := by
  induction j with
  | zero => exact Nat.le_refl _
  | succ j ih =>
    cases h : dth nb bt di co (4 * q + j) with
    | none => rw [bst_none h]; exact ih
    | some d => rw [bst_some h]; split <;> omega
/-- one cell's distance is lowered -/
def low (nb bt : Nat → Option Nat) (co : Nat → Nat) (di : Nat → Nat) (q : Nat) : Nat → Nat := va_up di q (bst nb bt di co q 4)
theorem va_up_id {α : Type} (f : Nat → α) (q : Nat) : va_up f q (f q) = f := by
  funext k
  unfold va_up
  by_cases h : k = q
  · rw [if_pos h, h]
  · rw [if_neg h]
theorem low_same {nb bt : Nat → Option Nat} {co di : Nat → Nat} {q : Nat} (h : ¬ bst nb bt di co q 4 < di q) : low nb bt co di q = di := by
  have h1 := bst_le nb bt di co q 4
  unfold low
  rw [show bst nb bt di co q 4 = di q by omega]
  exact va_up_id di q
def swU (nb bt : Nat → Option Nat) (co : Nat → Nat) (di : Nat → Nat) : Nat → (Nat → Nat)
  | 0 => di
  | k + 1 => low nb bt co (swU nb bt co di k) k
def swD (nb bt : Nat → Option Nat) (co : Nat → Nat) (n : Nat) (di : Nat → Nat) : Nat → (Nat → Nat)
  | 0 => di
  | k + 1 => low nb bt co (swD nb bt co n di k) (n - 1 - k)
def prD (nb bt : Nat → Option Nat) (co : Nat → Nat) (n : Nat) (di : Nat → Nat) : Nat → Nat := swD nb bt co n (swU nb bt co di n) n
def itP (nb bt : Nat → Option Nat) (co : Nat → Nat) (n : Nat) (di : Nat → Nat) : Nat → (Nat → Nat)
  | 0 => di
  | k + 1 => prD nb bt co n (itP nb bt co n di k)
theorem itP_stop {nb bt : Nat → Option Nat} {co : Nat → Nat} {n : Nat} {di : Nat → Nat} {k : Nat} (h : prD nb bt co n (itP nb bt co n di k) = itP nb bt co n di k) : ∀ j, k ≤ j → itP nb bt co n di j = itP nb bt co n di k := by
  intro j hj
  obtain ⟨d, rfl⟩ : ∃ d, j = k + d := ⟨j - k, by omega⟩
  clear hj
  induction d with
  | zero => rfl
  | succ d ih =>
    show prD nb bt co n (itP nb bt co n di (k + d)) = _
    rw [ih, h]
/-- bounds: what is lowered stays under a bound -/
theorem low_bd {nb bt : Nat → Option Nat} {co di : Nat → Nat} {q B : Nat} (h : ∀ k, di k ≤ B) : ∀ k, low nb bt co di q k ≤ B := by
  intro k
  unfold low va_up
  split
  · exact Nat.le_trans (bst_le nb bt di co q 4) (h q)
  · exact h k
theorem swU_bd {nb bt : Nat → Option Nat} {co di : Nat → Nat} {B : Nat} (h : ∀ k, di k ≤ B) (i : Nat) : ∀ k, swU nb bt co di i k ≤ B := by
  induction i with
  | zero => exact h
  | succ i ih => exact low_bd ih
theorem swD_bd {nb bt : Nat → Option Nat} {co di : Nat → Nat} {n B : Nat} (h : ∀ k, di k ≤ B) (i : Nat) : ∀ k, swD nb bt co n di i k ≤ B := by
  induction i with
  | zero => exact h
  | succ i ih => exact low_bd ih
theorem itP_bd {nb bt : Nat → Option Nat} {co di : Nat → Nat} {n B : Nat} (h : ∀ k, di k ≤ B) (i : Nat) : ∀ k, itP nb bt co n di i k ≤ B := by
  induction i with
  | zero => exact h
  | succ i ih => exact swD_bd (swU_bd ih n) n
def nrP (tr : Nat → Bool) (di pi : Nat → Nat) : Nat → Option Nat
  | 0 => none
  | j + 1 => if tr (pi j) = true then nrP tr di pi j else match nrP tr di pi j with
    | none => some (pi j)
    | some b => if di (pi j) < di b then some (pi j) else some b
def stp (nb bt : Nat → Option Nat) (di co : Nat → Nat) (q : Nat) : Nat → Option Nat
  | 0 => none
  | j + 1 => match stp nb bt di co q j with
    | some k => some k
    | none => if dth nb bt di co (4 * q + j) = some (di q) then some (4 * q + j) else none
theorem stp_no {nb bt : Nat → Option Nat} {di co : Nat → Nat} {q j : Nat} (h : stp nb bt di co q j = none) (h2 : ¬ dth nb bt di co (4 * q + j) = some (di q)) : stp nb bt di co q (j + 1) = none := by
  show (match stp nb bt di co q j with | some k => _ | none => _) = _
  rw [h]; exact if_neg h2
theorem stp_yes {nb bt : Nat → Option Nat} {di co : Nat → Nat} {q j : Nat} (h : stp nb bt di co q j = none) (h2 : dth nb bt di co (4 * q + j) = some (di q)) : ∀ m, j < m → stp nb bt di co q m = some (4 * q + j) := by
  intro m hm
  induction m with
  | zero => omega
  | succ m ih =>
    show (match stp nb bt di co q m with | some k => _ | none => _) = _
    by_cases e : m = j
    · subst e; rw [h]; exact if_pos h2
    · rw [ih (by omega)]
/-- a step that was found leads to a neighbour -/
theorem stp_of {nb bt : Nat → Option Nat} {di co : Nat → Nat} {q k : Nat} (m : Nat) (h : stp nb bt di co q m = some k) : 4 * q ≤ k ∧ k < 4 * q + m ∧ dth nb bt di co k = some (di q) := by
  induction m with
  | zero => cases h
  | succ m ih =>
    cases hs : stp nb bt di co q m with
    | some k' =>
      have h9 : stp nb bt di co q (m + 1) = some k' := by
        show (match stp nb bt di co q m with | some k => _ | none => _) = _
        rw [hs]
      rw [h9] at h
      cases h
      have := ih hs
      exact ⟨this.1, by omega, this.2.2⟩
    | none =>
      have h9 : stp nb bt di co q (m + 1) = if dth nb bt di co (4 * q + m) = some (di q) then some (4 * q + m) else none := by
        show (match stp nb bt di co q m with | some k => _ | none => _) = _
        rw [hs]
      rw [h9] at h
      by_cases e : dth nb bt di co (4 * q + m) = some (di q)
      · rw [if_pos e] at h; cases h; exact ⟨by omega, by omega, e⟩
      · rw [if_neg e] at h; cases h
/-- the way into the tree, fuel first -/
def wk (nb bt : Nat → Option Nat) (di co : Nat → Nat) : Nat → (Nat → Bool) → (Nat → Bool) → Nat → (Nat → Bool) × (Nat → Bool) × Nat
  | 0, tr, ro, q => (tr, ro, q)
  | f + 1, tr, ro, q => if tr q = true then (tr, ro, q) else match stp nb bt di co q 4 with
    | none => (tr, ro, q)
    | some k => match nb k, bt k with
      | some u, some b => wk nb bt di co f (va_up tr q true) (va_up ro b true) u
      | _, _ => (tr, ro, q)
theorem wk_in {nb bt : Nat → Option Nat} {di co : Nat → Nat} {f : Nat} {tr ro : Nat → Bool} {q : Nat} (h : tr q = true) : wk nb bt di co f tr ro q = (tr, ro, q) := by
  cases f with
  | zero => rfl
  | succ f => exact if_pos h
theorem wk_stop {nb bt : Nat → Option Nat} {di co : Nat → Nat} {f : Nat} {tr ro : Nat → Bool} {q : Nat} (h : stp nb bt di co q 4 = none) : wk nb bt di co f tr ro q = (tr, ro, q) := by
  cases f with
  | zero => rfl
  | succ f =>
    show (if tr q = true then (tr, ro, q) else match stp nb bt di co q 4 with | none => _ | some k => _) = _
    rw [h]; split <;> rfl
theorem wk_go {nb bt : Nat → Option Nat} {di co : Nat → Nat} {f : Nat} {tr ro : Nat → Bool} {q k u b : Nat} (h : tr q = false) (hs : stp nb bt di co q 4 = some k) (hu : nb k = some u) (hb : bt k = some b) : wk nb bt di co (f + 1) tr ro q = wk nb bt di co f (va_up tr q true) (va_up ro b true) u := by
  show (if tr q = true then (tr, ro, q) else match stp nb bt di co q 4 with | none => _ | some k => _) = _
  rw [if_neg (by rw [h]; decide), hs]
  show (match nb k, bt k with | some u, some b => _ | _, _ => _) = _
  rw [hu, hb]
/-- joins, fuel first: distances, tree, route -/
def jn (nb bt : Nat → Option Nat) (co pi : Nat → Nat) (n pn : Nat) : Nat → (Nat → Nat) → (Nat → Bool) → (Nat → Bool) → (Nat → Nat) × (Nat → Bool) × (Nat → Bool)
  | 0, di, tr, ro => (di, tr, ro)
  | f + 1, di, tr, ro => match nrP tr (itP nb bt co n di n) pi pn with
    | none => (itP nb bt co n di n, tr, ro)
    | some q => jn nb bt co pi n pn f (fun k => if (wk nb bt (itP nb bt co n di n) co n tr ro q).1 k = true then 0 else itP nb bt co n di n k) (wk nb bt (itP nb bt co n di n) co n tr ro q).1 (wk nb bt (itP nb bt co n di n) co n tr ro q).2.1
theorem nrP_in {tr : Nat → Bool} {di pi : Nat → Nat} {j : Nat} (h : tr (pi j) = true) : nrP tr di pi (j + 1) = nrP tr di pi j := if_pos h
theorem nrP_none {tr : Nat → Bool} {di pi : Nat → Nat} {j : Nat} (h : tr (pi j) = false) (hn : none = nrP tr di pi j) : nrP tr di pi (j + 1) = some (pi j) := by
  show (if tr (pi j) = true then _ else match nrP tr di pi j with | none => _ | some b => _) = _
  rw [if_neg (by rw [h]; decide), ← hn]
theorem nrP_some {tr : Nat → Bool} {di pi : Nat → Nat} {j b : Nat} (h : tr (pi j) = false) (hn : some b = nrP tr di pi j) : nrP tr di pi (j + 1) = if di (pi j) < di b then some (pi j) else some b := by
  show (if tr (pi j) = true then _ else match nrP tr di pi j with | none => _ | some b => _) = _
  rw [if_neg (by rw [h]; decide), ← hn]
theorem jn_none {nb bt : Nat → Option Nat} {co pi : Nat → Nat} {n pn f : Nat} {di : Nat → Nat} {tr ro : Nat → Bool} (h : nrP tr (itP nb bt co n di n) pi pn = none) : jn nb bt co pi n pn (f + 1) di tr ro = (itP nb bt co n di n, tr, ro) := by
  show (match nrP tr (itP nb bt co n di n) pi pn with | none => _ | some q => _) = _
  rw [h]
theorem jn_some {nb bt : Nat → Option Nat} {co pi : Nat → Nat} {n pn f q : Nat} {di : Nat → Nat} {tr ro : Nat → Bool} (h : nrP tr (itP nb bt co n di n) pi pn = some q) : jn nb bt co pi n pn (f + 1) di tr ro = jn nb bt co pi n pn f (fun k => if (wk nb bt (itP nb bt co n di n) co n tr ro q).1 k = true then 0 else itP nb bt co n di n k) (wk nb bt (itP nb bt co n di n) co n tr ro q).1 (wk nb bt (itP nb bt co n di n) co n tr ro q).2.1 := by
  show (match nrP tr (itP nb bt co n di n) pi pn with | none => _ | some q => _) = _
  rw [h]
theorem nrP_lt {tr : Nat → Bool} {di pi : Nat → Nat} {n pn q : Nat} (hp : ∀ k, k < pn → pi k < n) : ∀ j, j ≤ pn → nrP tr di pi j = some q → q < n := by
  intro j
  induction j generalizing q with
  | zero => intro _ h; cases h
  | succ j ih =>
    intro hj h
    by_cases e : tr (pi j) = true
    · rw [nrP_in e] at h; exact ih (by omega) h
    · have e' : tr (pi j) = false := by cases h9 : tr (pi j) with | true => exact absurd h9 e | false => rfl
      cases hb : nrP tr di pi j with
      | none => rw [nrP_none e' hb.symm] at h; cases h; exact hp j (by omega)
      | some b =>
        rw [nrP_some e' hb.symm] at h
        split at h
        · cases h; exact hp j (by omega)
        · cases h; exact ih (by omega) hb
def coF (cap us hi : Nat → Nat) : Nat → Nat := fun k => 1 + hi k + 4 * (us k + 1 - cap k)
def diS (q : Nat) : Nat → Nat := fun k => if k = q then 0 else 1000000000
def trS (q : Nat) : Nat → Bool := fun k => decide (k = q)
theorem diS_bd (q : Nat) : ∀ k, diS q k ≤ 1000000000 := by
  intro k; unfold diS; split <;> omega
theorem coF_bd {n : Nat} {cap us hi : Nat → Nat} (hus : ∀ k, k < 2 * n → us k ≤ 12) (hhi : ∀ k, k < 2 * n → hi k ≤ 5120) : ∀ k, k < 2 * n → coF cap us hi k ≤ 6000 := by
  intro k hk
  have h1 := hus k hk
  have h2 := hhi k hk
  show 1 + hi k + 4 * (us k + 1 - cap k) ≤ 6000
  omega
/-- uses without a route, and with one -/
def sbU (us : Nat → Nat) (ro : Nat → Bool) : Nat → Nat := fun k => us k - (if ro k = true then 1 else 0)
def adU (us : Nat → Nat) (ro : Nat → Bool) : Nat → Nat := fun k => us k + (if ro k = true then 1 else 0)
