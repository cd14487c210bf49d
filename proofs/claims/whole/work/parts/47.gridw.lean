/-! a grid's neighbours and borders, as the class's constructor lays them -/
def nbW (w h : Nat) (k : Nat) : Option Nat :=
  if k < 4 * (w * h) then
    (if k % 4 = 0 then (if w ≤ k / 4 then some (k / 4 - w) else none)
     else if k % 4 = 1 then (if 0 < k / 4 % w then some (k / 4 - 1) else none)
     else if k % 4 = 2 then (if k / 4 % w + 1 < w then some (k / 4 + 1) else none)
     else (if k / 4 / w + 1 < h then some (k / 4 + w) else none))
  else none
def btW (w h : Nat) (k : Nat) : Option Nat :=
  if k < 4 * (w * h) then
    (if k % 4 = 0 then (if w ≤ k / 4 then some (2 * (k / 4 - w) + 1) else none)
     else if k % 4 = 1 then (if 0 < k / 4 % w then some (2 * (k / 4 - 1)) else none)
     else if k % 4 = 2 then (if k / 4 % w + 1 < w then some (2 * (k / 4)) else none)
     else (if k / 4 / w + 1 < h then some (2 * (k / 4) + 1) else none))
  else none
def WH (w h n : Nat) : Prop := (2 ≤ w ∧ w ≤ 8 ∧ 2 ≤ h ∧ h ≤ 8) ∧ n = w * h
theorem WH.le {w h n : Nat} (hW : WH w h n) : n ≤ 64 := by
  obtain ⟨⟨h1, h2, h3, h4⟩, rfl⟩ := hW
  exact Nat.le_trans (Nat.mul_le_mul h2 h4) (by decide)
theorem w_cases {w : Nat} (h : 2 ≤ w ∧ w ≤ 8) : w = 2 ∨ w = 3 ∨ w = 4 ∨ w = 5 ∨ w = 6 ∨ w = 7 ∨ w = 8 := by omega
theorem nbW_up {w h q : Nat} (hq : q < w * h) : nbW w h (4 * q) = (if w ≤ q then some (q - w) else none) := by
  unfold nbW
  rw [if_pos (by omega), if_pos (by omega), show 4 * q / 4 = q by omega]
theorem nbW_left {w h q : Nat} (hq : q < w * h) : nbW w h (4 * q + 1) = (if 0 < q % w then some (q - 1) else none) := by
  unfold nbW
  rw [if_pos (by omega), if_neg (by omega), if_pos (by omega), show (4 * q + 1) / 4 = q by omega]
theorem nbW_right {w h q : Nat} (hq : q < w * h) : nbW w h (4 * q + 2) = (if q % w + 1 < w then some (q + 1) else none) := by
  unfold nbW
  rw [if_pos (by omega), if_neg (by omega), if_neg (by omega), if_pos (by omega), show (4 * q + 2) / 4 = q by omega]
theorem nbW_down {w h q : Nat} (hq : q < w * h) : nbW w h (4 * q + 3) = (if q / w + 1 < h then some (q + w) else none) := by
  unfold nbW
  rw [if_pos (by omega), if_neg (by omega), if_neg (by omega), if_neg (by omega), show (4 * q + 3) / 4 = q by omega]
theorem btW_up {w h q : Nat} (hq : q < w * h) : btW w h (4 * q) = (if w ≤ q then some (2 * (q - w) + 1) else none) := by
  unfold btW
  rw [if_pos (by omega), if_pos (by omega), show 4 * q / 4 = q by omega]
theorem btW_left {w h q : Nat} (hq : q < w * h) : btW w h (4 * q + 1) = (if 0 < q % w then some (2 * (q - 1)) else none) := by
  unfold btW
  rw [if_pos (by omega), if_neg (by omega), if_pos (by omega), show (4 * q + 1) / 4 = q by omega]
theorem btW_right {w h q : Nat} (hq : q < w * h) : btW w h (4 * q + 2) = (if q % w + 1 < w then some (2 * q) else none) := by
  unfold btW
  rw [if_pos (by omega), if_neg (by omega), if_neg (by omega), if_pos (by omega), show (4 * q + 2) / 4 = q by omega]
theorem btW_down {w h q : Nat} (hq : q < w * h) : btW w h (4 * q + 3) = (if q / w + 1 < h then some (2 * q + 1) else none) := by
  unfold btW
  rw [if_pos (by omega), if_neg (by omega), if_neg (by omega), if_neg (by omega), show (4 * q + 3) / 4 = q by omega]
theorem nbW_out {w h k : Nat} (hk : ¬ k < 4 * (w * h)) : nbW w h k = none := if_neg hk
/-- an edge, by its four directions -/
theorem Ed_W {w h q u b : Nat} : Ed (nbW w h) (btW w h) q u b ↔ q < w * h ∧ ((w ≤ q ∧ u = q - w ∧ b = 2 * (q - w) + 1) ∨ (0 < q % w ∧ u = q - 1 ∧ b = 2 * (q - 1)) ∨ (q % w + 1 < w ∧ u = q + 1 ∧ b = 2 * q) ∨ (q / w + 1 < h ∧ u = q + w ∧ b = 2 * q + 1)) := by
  constructor
  · rintro ⟨j, hj, h1, h2⟩
    have hq : q < w * h := by
      rcases Nat.lt_or_ge (4 * q + j) (4 * (w * h)) with h9 | h9
      · omega
      · rw [nbW_out (by omega)] at h1; cases h1
    refine ⟨hq, ?_⟩
    rcases (show j = 0 ∨ j = 1 ∨ j = 2 ∨ j = 3 by omega) with rfl | rfl | rfl | rfl
    · rw [Nat.add_zero] at h1 h2
      rw [nbW_up hq] at h1; rw [btW_up hq] at h2
      by_cases c : w ≤ q
      · rw [if_pos c] at h1 h2; cases h1; cases h2; exact Or.inl ⟨c, rfl, rfl⟩
      · rw [if_neg c] at h1; cases h1
    · rw [nbW_left hq] at h1; rw [btW_left hq] at h2
      by_cases c : 0 < q % w
      · rw [if_pos c] at h1 h2; cases h1; cases h2; exact Or.inr (Or.inl ⟨c, rfl, rfl⟩)
      · rw [if_neg c] at h1; cases h1
    · rw [nbW_right hq] at h1; rw [btW_right hq] at h2
      by_cases c : q % w + 1 < w
      · rw [if_pos c] at h1 h2; cases h1; cases h2; exact Or.inr (Or.inr (Or.inl ⟨c, rfl, rfl⟩))
      · rw [if_neg c] at h1; cases h1
    · rw [nbW_down hq] at h1; rw [btW_down hq] at h2
      by_cases c : q / w + 1 < h
      · rw [if_pos c] at h1 h2; cases h1; cases h2; exact Or.inr (Or.inr (Or.inr ⟨c, rfl, rfl⟩))
      · rw [if_neg c] at h1; cases h1
  · rintro ⟨hq, ⟨c, rfl, rfl⟩ | ⟨c, rfl, rfl⟩ | ⟨c, rfl, rfl⟩ | ⟨c, rfl, rfl⟩⟩
    · exact ⟨0, by omega, by rw [Nat.add_zero, nbW_up hq, if_pos c], by rw [Nat.add_zero, btW_up hq, if_pos c]⟩
    · exact ⟨1, by omega, by rw [nbW_left hq, if_pos c], by rw [btW_left hq, if_pos c]⟩
    · exact ⟨2, by omega, by rw [nbW_right hq, if_pos c], by rw [btW_right hq, if_pos c]⟩
    · exact ⟨3, by omega, by rw [nbW_down hq, if_pos c], by rw [btW_down hq, if_pos c]⟩
theorem Ed_lt {w h n q u b : Nat} (hW : WH w h n) (he : Ed (nbW w h) (btW w h) q u b) : q < n ∧ u < n ∧ b < 2 * n := by
  obtain ⟨⟨h1, h2, h3, h4⟩, rfl⟩ := hW
  obtain ⟨hq, hc⟩ := Ed_W.mp he
  rcases w_cases ⟨h1, h2⟩ with rfl | rfl | rfl | rfl | rfl | rfl | rfl <;> omega
theorem NB_W {w h n : Nat} (hW : WH w h n) : NB n (nbW w h) (btW w h) := by
  intro k
  cases hu : nbW w h k with
  | none => exact Or.inl rfl
  | some u =>
    cases hb : btW w h k with
    | none =>
      exfalso
      unfold nbW at hu
      unfold btW at hb
      (repeat' split at hu) <;> simp_all
    | some b =>
      have he : Ed (nbW w h) (btW w h) (k / 4) u b := ⟨k % 4, Nat.mod_lt _ (by omega), by rw [Nat.div_add_mod]; exact hu, by rw [Nat.div_add_mod]; exact hb⟩
      have h9 := Ed_lt hW he
      exact Or.inr ⟨u, b, rfl, rfl, h9.2.1, h9.2.2⟩
theorem Ed_sym {w h n q u b : Nat} (hW : WH w h n) (he : Ed (nbW w h) (btW w h) q u b) : Ed (nbW w h) (btW w h) u q b := by
  have h9 := Ed_lt hW he
  obtain ⟨⟨h1, h2, h3, h4⟩, rfl⟩ := hW
  obtain ⟨hq, hc⟩ := Ed_W.mp he
  refine Ed_W.mpr ⟨h9.2.1, ?_⟩
  rcases w_cases ⟨h1, h2⟩ with rfl | rfl | rfl | rfl | rfl | rfl | rfl <;> omega
theorem Ed_uniq {w h q u q' u' b : Nat} (hw : 2 ≤ w) (he : Ed (nbW w h) (btW w h) q u b) (he' : Ed (nbW w h) (btW w h) q' u' b) : (q' = q ∧ u' = u) ∨ (q' = u ∧ u' = q) := by
  obtain ⟨hq, hc⟩ := Ed_W.mp he
  obtain ⟨hq', hc'⟩ := Ed_W.mp he'
  have h1 := Nat.mod_le q w
  have h2 := Nat.mod_le q' w
  rcases hc with ⟨a1, a2, a3⟩ | ⟨a1, a2, a3⟩ | ⟨a1, a2, a3⟩ | ⟨a1, a2, a3⟩ <;> rcases hc' with ⟨b1, b2, b3⟩ | ⟨b1, b2, b3⟩ | ⟨b1, b2, b3⟩ | ⟨b1, b2, b3⟩ <;> omega
theorem Cn_W {w h n : Nat} (hW : WH w h n) : Cn (nbW w h) (btW w h) n := by
  intro D C hD q t hq ht
  have hn := hW.le
  have key : ∀ m q, q ≤ m → q < n → D q ≤ D 0 + C * q ∧ D 0 ≤ D q + C * q := by
    intro m
    induction m with
    | zero => intro q h1 _; have : q = 0 := by omega
              subst this; exact ⟨by omega, by omega⟩
    | succ m ih =>
      intro q h1 h2
      have hW2 := hW
      obtain ⟨⟨w1, w2, w3, w4⟩, hnw⟩ := hW2
      by_cases h0 : q = 0
      · subst h0; exact ⟨by omega, by omega⟩
      · by_cases hm : 0 < q % w
        · have he : Ed (nbW w h) (btW w h) q (q - 1) (2 * (q - 1)) := Ed_W.mpr ⟨by rw [← hnw]; exact h2, Or.inr (Or.inl ⟨hm, rfl, rfl⟩)⟩
          have h3 := hD _ _ _ h2 he
          have h4 := hD _ _ _ (by omega) (Ed_sym hW he)
          obtain ⟨h5, h6⟩ := ih (q - 1) (by omega) (by omega)
          have h7 : C * q = C * (q - 1) + C := by rw [← Nat.mul_succ]; congr 1; omega
          exact ⟨by omega, by omega⟩
        · have hle : w ≤ q := by
            rcases Nat.lt_or_ge q w with h9 | h9
            · rw [Nat.mod_eq_of_lt h9] at hm; omega
            · exact h9
          have he : Ed (nbW w h) (btW w h) q (q - w) (2 * (q - w) + 1) := Ed_W.mpr ⟨by rw [← hnw]; exact h2, Or.inl ⟨hle, rfl, rfl⟩⟩
          have h3 := hD _ _ _ h2 he
          have h4 := hD _ _ _ (by omega) (Ed_sym hW he)
          obtain ⟨h5, h6⟩ := ih (q - w) (by omega) (by omega)
          have h7 : C * (q - w) + C ≤ C * q := by rw [← Nat.mul_succ]; exact Nat.mul_le_mul_left _ (by omega)
          exact ⟨by omega, by omega⟩
  have h1 := (key q q (Nat.le_refl _) hq).1
  have h2 := (key t t (Nat.le_refl _) ht).2
  have h3 : C * q + C * t ≤ C * 128 := by rw [← Nat.mul_add]; exact Nat.mul_le_mul_left _ (by omega)
  omega
/-! the model's borders -/
def mbI (b : Nat) : Nat := b / 2 + 64 * (b % 2)
theorem isW_Ed {w h n b : Nat} (hW : WH w h n) (hb : b < 128) (hi : isW w h b = true) : b % 64 < n ∧ bey w b < n ∧ Ed (nbW w h) (btW w h) (b % 64) (bey w b) (ub b) := by
  have hn := hW.le
  have hW2 := hW
  obtain ⟨⟨w1, w2, w3, w4⟩, hnw⟩ := hW2
  have he : Ed (nbW w h) (btW w h) (b % 64) (bey w b) (ub b) := by
    refine Ed_W.mpr ?_
    unfold isW at hi
    unfold bey ub
    by_cases hd : 64 ≤ b
    · rw [decide_eq_true hd] at hi
      have h1 := of_decide_eq_true hi
      rw [if_neg (by omega), show b / 64 = 1 by omega]
      rcases w_cases ⟨w1, w2⟩ with rfl | rfl | rfl | rfl | rfl | rfl | rfl <;> exact ⟨by omega, Or.inr (Or.inr (Or.inr ⟨by omega, rfl, rfl⟩))⟩
    · rw [decide_eq_false hd] at hi
      have h1 := of_decide_eq_true hi
      rw [if_pos (by omega), show b / 64 = 0 by omega]
      rcases w_cases ⟨w1, w2⟩ with rfl | rfl | rfl | rfl | rfl | rfl | rfl <;> exact ⟨by omega, Or.inr (Or.inr (Or.inl ⟨by omega, rfl, rfl⟩))⟩
  have h9 := Ed_lt hW he
  exact ⟨h9.1, h9.2.1, he⟩
theorem Ed_isW {w h n q u b : Nat} (hW : WH w h n) (he : Ed (nbW w h) (btW w h) q u b) : mbI b < 128 ∧ mbI b % 64 < n ∧ isW w h (mbI b) = true ∧ ub (mbI b) = b ∧ ((q = mbI b % 64 ∧ u = bey w (mbI b)) ∨ (u = mbI b % 64 ∧ q = bey w (mbI b))) := by
  have hn := hW.le
  have h9 := Ed_lt hW he
  have hW2 := hW
  obtain ⟨⟨w1, w2, w3, w4⟩, hnw⟩ := hW2
  obtain ⟨hq, hc⟩ := Ed_W.mp he
  have hB : mbI b < 128 := by unfold mbI; omega
  have hm : mbI b % 64 = b / 2 := by unfold mbI; omega
  have hd : (64 ≤ mbI b) ↔ b % 2 = 1 := by unfold mbI; omega
  refine ⟨hB, by rw [hm]; omega, ?_, by unfold ub; rw [hm]; unfold mbI; omega, ?_⟩
  · unfold isW
    rw [hm]
    by_cases hp : b % 2 = 1
    · rw [decide_eq_true (hd.mpr hp)]
      refine decide_eq_true ?_
      rcases w_cases ⟨w1, w2⟩ with rfl | rfl | rfl | rfl | rfl | rfl | rfl <;> omega
    · rw [decide_eq_false (fun z => hp (hd.mp z))]
      refine decide_eq_true ?_
      rcases w_cases ⟨w1, w2⟩ with rfl | rfl | rfl | rfl | rfl | rfl | rfl <;> omega
  · unfold bey
    rw [hm]
    by_cases hp : b % 2 = 1
    · have := hd.mpr hp
      rw [if_neg (by omega)]
      have h1 := Nat.mod_le q w
      omega
    · have : ¬ 64 ≤ mbI b := fun z => hp (hd.mp z)
      rw [if_pos (by omega)]
      have h1 := Nat.mod_le q w
      omega
