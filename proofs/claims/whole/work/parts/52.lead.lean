/-! leading a net: the model's loop and the class's -/
def bm : Option Nat → Nat → Nat
  | none, _ => 0
  | some _, f => f + 1
theorem oZ_none {o : Option Nat} (h : oZ o = -1) : o = none := by
  cases o with
  | none => rfl
  | some k => have h9 : ((k : Nat) : Int) = -1 := h; omega
theorem oZ_some {o : Option Nat} (h : ¬ oZ o = -1) : ∃ k, o = some k := by
  cases o with
  | none => exact absurd rfl h
  | some k => exact ⟨k, rfl⟩
theorem UC.drop {n nc t : Nat} {us : Nat → Nat} {ro : Nat → Nat → Bool} (h : UC n nc us ro) (ht : t < nc) : UC n nc (sbU us (ro t)) (va_up ro t (fun _ => false)) := fun k hk => by
  have e1 : (fun i => va_up ro t (fun _ => false) i k) = va_up (fun i => ro i k) t false := by
    funext i
    unfold va_up
    split <;> rfl
  rw [e1]
  have h9 := cnt_up (p := fun i => ro i k) (b := false) ht
  have h8 := h k hk
  unfold sbU
  rw [← h8] at h9
  by_cases e : ro t k = true
  · simp only [e] at h9 ⊢; simp at h9 ⊢; omega
  · simp only [e] at h9 ⊢; simp at h9 ⊢; omega
theorem itP_out {nb bt : Nat → Option Nat} {co di : Nat → Nat} {n z : Nat} (hz : n ≤ z) (k : Nat) : itP nb bt co n di k z = di z := by
  induction k with
  | zero => rfl
  | succ k ih => exact (prD_out hz).trans ih
theorem nrP_mem {tr : Nat → Bool} {di pi : Nat → Nat} {q : Nat} : ∀ j, nrP tr di pi j = some q → ∃ i, i < j ∧ q = pi i ∧ tr (pi i) = false := by
  intro j
  induction j generalizing q with
  | zero => intro h; cases h
  | succ j ih =>
    intro h
    by_cases e : tr (pi j) = true
    · rw [nrP_in e] at h
      obtain ⟨i, h1, h2⟩ := ih h
      exact ⟨i, by omega, h2⟩
    · have e' : tr (pi j) = false := by cases h9 : tr (pi j) with | true => exact absurd h9 e | false => rfl
      cases hb : nrP tr di pi j with
      | none => rw [nrP_none e' hb.symm] at h; cases h; exact ⟨j, by omega, rfl, e'⟩
      | some b =>
        rw [nrP_some e' hb.symm] at h
        split at h
        · cases h; exact ⟨j, by omega, rfl, e'⟩
        · cases h
          obtain ⟨i, h1, h2⟩ := ih hb
          exact ⟨i, by omega, h2⟩
theorem jn_R {nb bt : Nat → Option Nat} {co pi : Nat → Nat} {n pn f : Nat} {di : Nat → Nat} {tr ro : Nat → Bool} (h : nrP tr (itP nb bt co n di n) pi pn = none) : (jn nb bt co pi n pn f di tr ro).2.2 = ro := by
  cases f with
  | zero => rfl
  | succ f => rw [jn_none h]
theorem trS_self (q : Nat) : trS q q = true := decide_eq_true rfl
theorem diS_Z0 {n q : Nat} : Z0 n (trS q) (diS q) := fun k _ h => if_pos (of_decide_eq_true h)
theorem diS_Uw {nb bt : Nat → Option Nat} {n q : Nat} {co : Nat → Nat} : Uw nb bt n co (trS q) (diS q) := fun k _ h h2 => by
  have h3 : diS q k = 1000000000 := if_neg (of_decide_eq_false h)
  omega
theorem di2_Z0 {n : Nat} {T : Nat → Bool} {D : Nat → Nat} : Z0 n T (fun k => if T k = true then 0 else D k) := fun k _ h => if_pos h
theorem di2_Uw {nb bt : Nat → Option Nat} {n : Nat} {co : Nat → Nat} {T1 T2 : Nat → Bool} {D : Nat → Nat} (hD : DS nb bt n co T1 D) (hs : ∀ c, T1 c = true → T2 c = true) : Uw nb bt n co T2 (fun k => if T2 k = true then 0 else D k) := fun q hq ht _ => by
  have h1 : T1 q = false := by
    cases h : T1 q with
    | false => rfl
    | true => rw [hs q h] at ht; cases ht
  obtain ⟨u, b, he, hw⟩ := hD.2.2 q hq h1
  refine ⟨u, b, he, ?_⟩
  show (if T2 u = true then 0 else D u) + co b ≤ (if T2 q = true then 0 else D q)
  rw [if_neg (show ¬ T2 q = true by rw [ht]; decide)]
  split <;> omega
theorem pin_lt {T1 T2 : Nat → Bool} {pi : Nat → Nat} {pn c f : Nat} (hs : ∀ c, T1 c = true → T2 c = true) (h2 : T2 c = true) (hm : ∃ i, i < pn ∧ c = pi i ∧ T1 (pi i) = false) (hf : cnt (fun k => !T1 (pi k)) pn ≤ f) : 1 ≤ f ∧ cnt (fun k => !T2 (pi k)) pn ≤ f - 1 := by
  obtain ⟨i, hi, rfl, h1⟩ := hm
  have h9 := cnt_lt (p := fun k => !T2 (pi k)) (q := fun k => !T1 (pi k)) (n := pn) (i := i) (fun k _ h8 => by
    have h7 : (!T2 (pi k)) = true := h8
    show (!T1 (pi k)) = true
    cases h6 : T1 (pi k) with
    | false => rfl
    | true => rw [hs _ h6] at h7; cases h7) hi (by show (!T2 (pi i)) = false; rw [h2]; rfl) (by show (!T1 (pi i)) = true; rw [h1]; rfl)
  omega
theorem pin_0 {pi : Nat → Nat} {pn : Nat} (hp : 1 ≤ pn) : cnt (fun k => !trS (pi 0) (pi k)) pn ≤ pn - 1 := by
  have h9 := cnt_lt (p := fun k => !trS (pi 0) (pi k)) (q := fun _ => true) (n := pn) (i := 0) (fun k _ _ => rfl) hp (by show (!trS (pi 0) (pi 0)) = false; rw [trS_self]; rfl) rfl
  have h8 := cnt_le (fun _ => true) pn
  omega
theorem sR_0 (n : Nat) (co : Nat → Nat) : sR n co (fun _ => false) = 0 := sm_zero (fun i _ => if_neg (show ¬ false = true by decide))
def cFm (n c0 : Nat) (cap us hi : Nat → Nat) : Nat → Nat := fun k => 1 + mA n 0 hi k + 4 * (mA n 0 us k + 1 - mA n c0 cap k)
theorem cFm_co {n c0 : Nat} {cap us hi : Nat → Nat} {b : Nat} (h : b % 64 < n) : cFm n c0 cap us hi b = coF cap us hi (ub b) := by
  unfold cFm mA coF
  rw [if_pos h, if_pos h, if_pos h]
theorem coF_C1 {n : Nat} {cap us hi : Nat → Nat} (hus : ∀ k, k < 2 * n → us k ≤ 12) (hhi : ∀ k, k < 2 * n → hi k ≤ 5120) : C1 n (coF cap us hi) := fun k hk => ⟨by unfold coF; omega, coF_bd hus hhi k hk⟩
theorem cp_up {n t i : Nat} {ro : Nat → Nat → Bool} {rt f : Nat → Bool} (hi : i < 128) (hf : ∀ k, f k = if 128 * t ≤ k ∧ k < 128 * t + i then mR n rt (k - 128 * t) else mRo n ro k) : ∀ k, va_up f (128 * t + i) (mR n rt i) k = if 128 * t ≤ k ∧ k < 128 * t + (i + 1) then mR n rt (k - 128 * t) else mRo n ro k := by
  intro k
  by_cases e : k = 128 * t + i
  · rw [e, va_up_self, if_pos (by omega), show 128 * t + i - 128 * t = i by omega]
  · rw [va_up_ne _ _ e, hf k]
    by_cases h : 128 * t ≤ k ∧ k < 128 * t + i
    · rw [if_pos h, if_pos (by omega)]
    · rw [if_neg h, if_neg (by omega)]
theorem cp_end {n t : Nat} {ro : Nat → Nat → Bool} {rt f : Nat → Bool} (hf : ∀ k, f k = if 128 * t ≤ k ∧ k < 128 * t + 128 then mR n rt (k - 128 * t) else mRo n (va_up ro t (fun _ => false)) k) : ∀ k, f k = mRo n (va_up ro t rt) k := by
  intro k
  rw [hf k]
  unfold mRo
  by_cases e : k / 128 = t
  · rw [if_pos (by omega), e, va_up_self, show k % 128 = k - 128 * t by omega]
  · rw [if_neg (by omega), va_up_ne _ _ e, va_up_ne _ _ e]
theorem mHr_end {rl : Nat → Int} {t k c : Nat} : va_up (mHr (va_up rl t (-1))) t true k = mHr (va_up rl t ((c : Nat) : Int)) k := by
  unfold mHr
  by_cases e : k = t
  · rw [e, va_up_self, va_up_self]
    exact (decide_eq_true (by omega)).symm
  · rw [va_up_ne _ _ e, va_up_ne _ _ e, va_up_ne _ _ e]
theorem DS_itP {w h n : Nat} {co : Nat → Nat} {tr : Nat → Bool} {dv di : Nat → Nat} (hW : WH w h n) (hc : C1 n co) (h1 : DS (nbW w h) (btW w h) n co tr dv) (h2 : DS (nbW w h) (btW w h) n co tr (itP (nbW w h) (btW w h) co n di n)) (ho : ∀ k, n ≤ k → k < 64 → dv k = 1000000000) (ho2 : ∀ k, n ≤ k → di k = 1000000000) : ∀ k, k < 64 → dv k = itP (nbW w h) (btW w h) co n di n k := fun k hk => by
  by_cases e : k < n
  · exact DS.uniq (NB_W hW) hc h1 h2 k e
  · rw [itP_out (by omega), ho k (by omega) hk, ho2 k (by omega)]
