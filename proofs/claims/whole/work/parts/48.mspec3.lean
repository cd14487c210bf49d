/-! the model's search for distances, and its way back -/
def dI (tr : Nat → Bool) : Nat → Nat := fun k => if tr k = true then 0 else 1000000000
theorem dI_bd (tr : Nat → Bool) (k : Nat) : dI tr k ≤ 1000000000 := by unfold dI; split <;> omega
theorem dI_Z0 {n : Nat} {tr : Nat → Bool} : Z0 n tr (dI tr) := fun q _ h => if_pos h
theorem dI_Uw {nb bt : Nat → Option Nat} {n : Nat} {co : Nat → Nat} {tr : Nat → Bool} : Uw nb bt n co tr (dI tr) := fun q _ h h2 => by
  rw [show dI tr q = 1000000000 from if_neg (by rw [h]; decide)] at h2
  omega
/-- what the distances keep while edges are relaxed -/
def UpR (nb bt : Nat → Option Nat) (n : Nat) (co : Nat → Nat) (tr : Nat → Bool) (d : Nat → Nat) : Prop := Z0 n tr d ∧ Uw nb bt n co tr d ∧ (∀ k, n ≤ k → k < 64 → d k = 1000000000) ∧ ∀ k, d k ≤ 1000000000
theorem sm_up {f : Nat → Nat} {a v n : Nat} (ha : a < n) : sm (va_up f a v) n + f a = sm f n + v := by
  induction n with
  | zero => omega
  | succ n ih =>
    rw [sm_s, sm_s]
    by_cases e : a = n
    · subst e
      rw [va_up_self, sm_ext (f := va_up f a v) (g := f) (fun i hi => va_up_ne f v (by omega))]
      omega
    · have := ih (by omega)
      rw [va_up_ne f v (show n ≠ a by omega)]
      omega
theorem UpR.up {nb bt : Nat → Option Nat} {n : Nat} {co : Nat → Nat} {tr : Nat → Bool} {d : Nat → Nat} (h : UpR nb bt n co tr d) {a u b : Nat} (ha : a < n) (he : Ed nb bt a u b) (hlt : d u + co b < d a) : UpR nb bt n co tr (va_up d a (d u + co b)) := by
  obtain ⟨h1, h2, h3, h4⟩ := h
  have hle : ∀ k, va_up d a (d u + co b) k ≤ d k := fun k => by
    by_cases e : k = a
    · rw [e, va_up_self]; omega
    · rw [va_up_ne _ _ e]; exact Nat.le_refl _
  refine ⟨fun q hq ht => ?_, fun q hq ht hb => ?_, fun k hk hk2 => ?_, fun k => Nat.le_trans (hle k) (h4 k)⟩
  · have := hle q; rw [h1 q hq ht] at this; omega
  · by_cases e : q = a
    · subst e
      rw [va_up_self]
      exact ⟨u, b, he, by have := hle u; omega⟩
    · rw [va_up_ne _ _ e] at hb ⊢
      obtain ⟨u', b', h5, h6⟩ := h2 q hq ht hb
      exact ⟨u', b', h5, by have := hle u'; omega⟩
  · rw [va_up_ne _ _ (by omega)]; exact h3 k hk hk2
theorem UpR.DS {w h n : Nat} {co : Nat → Nat} {tr : Nat → Bool} {d : Nat → Nat} (hW : WH w h n) (hc : C1 n co) {t : Nat} (ht : t < n) (htr : tr t = true) (hd : UpR (nbW w h) (btW w h) n co tr d) (hM : ∀ b, b < 128 → isW w h b = true → d (b % 64) ≤ d (bey w b) + co (ub b) ∧ d (bey w b) ≤ d (b % 64) + co (ub b)) : DS (nbW w h) (btW w h) n co tr d := by
  refine DS.of (NB_W hW) (Cn_W hW) hc ht htr hd.1 (fun q u b hq he => ?_) hd.2.1
  obtain ⟨h1, h2, h3, h4, h5⟩ := Ed_isW hW he
  have h6 := hM _ h1 h3
  rw [h4] at h6
  rcases h5 with ⟨e1, e2⟩ | ⟨e1, e2⟩
  · rw [e1, e2]; exact h6.1
  · rw [e1, e2]; exact h6.2
/-! borders to the four sides -/
theorem bT0_true {w h n q : Nat} (hW : WH w h n) (hq : q < n) (hb : hB w h ((q % w : Nat) : Int) (((q / w : Nat) : Int) - 1) true = true) : oZ ((btW w h (4 * q + 0)).map mbI) = ((q % w + w * (q / w - 1) + 64 * bN true : Nat) : Int) := by
  obtain ⟨⟨w1, w2, w3, w4⟩, rfl⟩ := hW
  have h1 := of_decide_eq_true hb
  rw [Nat.add_zero, btW_up hq]
  rcases w_cases ⟨w1, w2⟩ with rfl | rfl | rfl | rfl | rfl | rfl | rfl
  · rw [if_pos (show 2 ≤ q by omega)]; show ((mbI _ : Nat) : Int) = _; rw [show bN true = 1 from rfl]; unfold mbI; omega
  · rw [if_pos (show 3 ≤ q by omega)]; show ((mbI _ : Nat) : Int) = _; rw [show bN true = 1 from rfl]; unfold mbI; omega
  · rw [if_pos (show 4 ≤ q by omega)]; show ((mbI _ : Nat) : Int) = _; rw [show bN true = 1 from rfl]; unfold mbI; omega
  · rw [if_pos (show 5 ≤ q by omega)]; show ((mbI _ : Nat) : Int) = _; rw [show bN true = 1 from rfl]; unfold mbI; omega
  · rw [if_pos (show 6 ≤ q by omega)]; show ((mbI _ : Nat) : Int) = _; rw [show bN true = 1 from rfl]; unfold mbI; omega
  · rw [if_pos (show 7 ≤ q by omega)]; show ((mbI _ : Nat) : Int) = _; rw [show bN true = 1 from rfl]; unfold mbI; omega
  · rw [if_pos (show 8 ≤ q by omega)]; show ((mbI _ : Nat) : Int) = _; rw [show bN true = 1 from rfl]; unfold mbI; omega
theorem bT0_false {w h n q : Nat} (hW : WH w h n) (hq : q < n) (hb : hB w h ((q % w : Nat) : Int) (((q / w : Nat) : Int) - 1) true = false) : oZ ((btW w h (4 * q + 0)).map mbI) = -1 := by
  obtain ⟨⟨w1, w2, w3, w4⟩, rfl⟩ := hW
  have h1 := of_decide_eq_false hb
  rw [Nat.add_zero, btW_up hq]
  rcases w_cases ⟨w1, w2⟩ with rfl | rfl | rfl | rfl | rfl | rfl | rfl
  · rw [if_neg (show ¬ (2 ≤ q) by omega)]; rfl
  · rw [if_neg (show ¬ (3 ≤ q) by omega)]; rfl
  · rw [if_neg (show ¬ (4 ≤ q) by omega)]; rfl
  · rw [if_neg (show ¬ (5 ≤ q) by omega)]; rfl
  · rw [if_neg (show ¬ (6 ≤ q) by omega)]; rfl
  · rw [if_neg (show ¬ (7 ≤ q) by omega)]; rfl
  · rw [if_neg (show ¬ (8 ≤ q) by omega)]; rfl
theorem bT1_true {w h n q : Nat} (hW : WH w h n) (hq : q < n) (hb : hB w h (((q % w : Nat) : Int) - 1) ((q / w : Nat) : Int) false = true) : oZ ((btW w h (4 * q + 1)).map mbI) = ((q % w - 1 + w * (q / w) + 64 * bN false : Nat) : Int) := by
  obtain ⟨⟨w1, w2, w3, w4⟩, rfl⟩ := hW
  have h1 := of_decide_eq_true hb
  rw [btW_left hq]
  rcases w_cases ⟨w1, w2⟩ with rfl | rfl | rfl | rfl | rfl | rfl | rfl
  · rw [if_pos (show 0 < q % 2 by omega)]; show ((mbI _ : Nat) : Int) = _; rw [show bN false = 0 from rfl]; unfold mbI; omega
  · rw [if_pos (show 0 < q % 3 by omega)]; show ((mbI _ : Nat) : Int) = _; rw [show bN false = 0 from rfl]; unfold mbI; omega
  · rw [if_pos (show 0 < q % 4 by omega)]; show ((mbI _ : Nat) : Int) = _; rw [show bN false = 0 from rfl]; unfold mbI; omega
  · rw [if_pos (show 0 < q % 5 by omega)]; show ((mbI _ : Nat) : Int) = _; rw [show bN false = 0 from rfl]; unfold mbI; omega
  · rw [if_pos (show 0 < q % 6 by omega)]; show ((mbI _ : Nat) : Int) = _; rw [show bN false = 0 from rfl]; unfold mbI; omega
  · rw [if_pos (show 0 < q % 7 by omega)]; show ((mbI _ : Nat) : Int) = _; rw [show bN false = 0 from rfl]; unfold mbI; omega
  · rw [if_pos (show 0 < q % 8 by omega)]; show ((mbI _ : Nat) : Int) = _; rw [show bN false = 0 from rfl]; unfold mbI; omega
theorem bT1_false {w h n q : Nat} (hW : WH w h n) (hq : q < n) (hb : hB w h (((q % w : Nat) : Int) - 1) ((q / w : Nat) : Int) false = false) : oZ ((btW w h (4 * q + 1)).map mbI) = -1 := by
  obtain ⟨⟨w1, w2, w3, w4⟩, rfl⟩ := hW
  have h1 := of_decide_eq_false hb
  rw [btW_left hq]
  rcases w_cases ⟨w1, w2⟩ with rfl | rfl | rfl | rfl | rfl | rfl | rfl
  · rw [if_neg (show ¬ (0 < q % 2) by omega)]; rfl
  · rw [if_neg (show ¬ (0 < q % 3) by omega)]; rfl
  · rw [if_neg (show ¬ (0 < q % 4) by omega)]; rfl
  · rw [if_neg (show ¬ (0 < q % 5) by omega)]; rfl
  · rw [if_neg (show ¬ (0 < q % 6) by omega)]; rfl
  · rw [if_neg (show ¬ (0 < q % 7) by omega)]; rfl
  · rw [if_neg (show ¬ (0 < q % 8) by omega)]; rfl
theorem bT2_true {w h n q : Nat} (hW : WH w h n) (hq : q < n) (hb : hB w h ((q % w : Nat) : Int) ((q / w : Nat) : Int) false = true) : oZ ((btW w h (4 * q + 2)).map mbI) = ((q % w + w * (q / w) + 64 * bN false : Nat) : Int) := by
  obtain ⟨⟨w1, w2, w3, w4⟩, rfl⟩ := hW
  have h1 := of_decide_eq_true hb
  rw [btW_right hq]
  rcases w_cases ⟨w1, w2⟩ with rfl | rfl | rfl | rfl | rfl | rfl | rfl
  · rw [if_pos (show q % 2 + 1 < 2 by omega)]; show ((mbI _ : Nat) : Int) = _; rw [show bN false = 0 from rfl]; unfold mbI; omega
  · rw [if_pos (show q % 3 + 1 < 3 by omega)]; show ((mbI _ : Nat) : Int) = _; rw [show bN false = 0 from rfl]; unfold mbI; omega
  · rw [if_pos (show q % 4 + 1 < 4 by omega)]; show ((mbI _ : Nat) : Int) = _; rw [show bN false = 0 from rfl]; unfold mbI; omega
  · rw [if_pos (show q % 5 + 1 < 5 by omega)]; show ((mbI _ : Nat) : Int) = _; rw [show bN false = 0 from rfl]; unfold mbI; omega
  · rw [if_pos (show q % 6 + 1 < 6 by omega)]; show ((mbI _ : Nat) : Int) = _; rw [show bN false = 0 from rfl]; unfold mbI; omega
  · rw [if_pos (show q % 7 + 1 < 7 by omega)]; show ((mbI _ : Nat) : Int) = _; rw [show bN false = 0 from rfl]; unfold mbI; omega
  · rw [if_pos (show q % 8 + 1 < 8 by omega)]; show ((mbI _ : Nat) : Int) = _; rw [show bN false = 0 from rfl]; unfold mbI; omega
theorem bT2_false {w h n q : Nat} (hW : WH w h n) (hq : q < n) (hb : hB w h ((q % w : Nat) : Int) ((q / w : Nat) : Int) false = false) : oZ ((btW w h (4 * q + 2)).map mbI) = -1 := by
  obtain ⟨⟨w1, w2, w3, w4⟩, rfl⟩ := hW
  have h1 := of_decide_eq_false hb
  rw [btW_right hq]
  rcases w_cases ⟨w1, w2⟩ with rfl | rfl | rfl | rfl | rfl | rfl | rfl
  · rw [if_neg (show ¬ (q % 2 + 1 < 2) by omega)]; rfl
  · rw [if_neg (show ¬ (q % 3 + 1 < 3) by omega)]; rfl
  · rw [if_neg (show ¬ (q % 4 + 1 < 4) by omega)]; rfl
  · rw [if_neg (show ¬ (q % 5 + 1 < 5) by omega)]; rfl
  · rw [if_neg (show ¬ (q % 6 + 1 < 6) by omega)]; rfl
  · rw [if_neg (show ¬ (q % 7 + 1 < 7) by omega)]; rfl
  · rw [if_neg (show ¬ (q % 8 + 1 < 8) by omega)]; rfl
theorem bT3_true {w h n q : Nat} (hW : WH w h n) (hq : q < n) (hb : hB w h ((q % w : Nat) : Int) ((q / w : Nat) : Int) true = true) : oZ ((btW w h (4 * q + 3)).map mbI) = ((q % w + w * (q / w) + 64 * bN true : Nat) : Int) := by
  obtain ⟨⟨w1, w2, w3, w4⟩, rfl⟩ := hW
  have h1 := of_decide_eq_true hb
  rw [btW_down hq]
  rcases w_cases ⟨w1, w2⟩ with rfl | rfl | rfl | rfl | rfl | rfl | rfl
  · rw [if_pos (show q / 2 + 1 < h by omega)]; show ((mbI _ : Nat) : Int) = _; rw [show bN true = 1 from rfl]; unfold mbI; omega
  · rw [if_pos (show q / 3 + 1 < h by omega)]; show ((mbI _ : Nat) : Int) = _; rw [show bN true = 1 from rfl]; unfold mbI; omega
  · rw [if_pos (show q / 4 + 1 < h by omega)]; show ((mbI _ : Nat) : Int) = _; rw [show bN true = 1 from rfl]; unfold mbI; omega
  · rw [if_pos (show q / 5 + 1 < h by omega)]; show ((mbI _ : Nat) : Int) = _; rw [show bN true = 1 from rfl]; unfold mbI; omega
  · rw [if_pos (show q / 6 + 1 < h by omega)]; show ((mbI _ : Nat) : Int) = _; rw [show bN true = 1 from rfl]; unfold mbI; omega
  · rw [if_pos (show q / 7 + 1 < h by omega)]; show ((mbI _ : Nat) : Int) = _; rw [show bN true = 1 from rfl]; unfold mbI; omega
  · rw [if_pos (show q / 8 + 1 < h by omega)]; show ((mbI _ : Nat) : Int) = _; rw [show bN true = 1 from rfl]; unfold mbI; omega
theorem bT3_false {w h n q : Nat} (hW : WH w h n) (hq : q < n) (hb : hB w h ((q % w : Nat) : Int) ((q / w : Nat) : Int) true = false) : oZ ((btW w h (4 * q + 3)).map mbI) = -1 := by
  obtain ⟨⟨w1, w2, w3, w4⟩, rfl⟩ := hW
  have h1 := of_decide_eq_false hb
  rw [btW_down hq]
  rcases w_cases ⟨w1, w2⟩ with rfl | rfl | rfl | rfl | rfl | rfl | rfl
  · rw [if_neg (show ¬ (q / 2 + 1 < h) by omega)]; rfl
  · rw [if_neg (show ¬ (q / 3 + 1 < h) by omega)]; rfl
  · rw [if_neg (show ¬ (q / 4 + 1 < h) by omega)]; rfl
  · rw [if_neg (show ¬ (q / 5 + 1 < h) by omega)]; rfl
  · rw [if_neg (show ¬ (q / 6 + 1 < h) by omega)]; rfl
  · rw [if_neg (show ¬ (q / 7 + 1 < h) by omega)]; rfl
  · rw [if_neg (show ¬ (q / 8 + 1 < h) by omega)]; rfl
