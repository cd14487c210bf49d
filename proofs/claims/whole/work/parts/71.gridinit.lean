/-! the grid's neighbours while its constructor lays them: at the places of P they stand, elsewhere -1 -/
def InP (P : Nat → Prop) (N : Nat) (G : Nat → Option Nat) (f : Nat → Int) : Prop := ∀ k, k < N → (P k → f k = oZ (G k)) ∧ (¬ P k → f k = -1)
theorem InP.up2 {P P' : Nat → Prop} {N : Nat} {G : Nat → Option Nat} {f : Nat → Int} {i j a b : Nat} (h : InP P N G f) (hi : G i = some a) (hj : G j = some b) (hP : ∀ k, k < N → (P' k ↔ P k ∨ k = i ∨ k = j)) : InP P' N G (va_up (va_up f i ((a : Nat) : Int)) j ((b : Nat) : Int)) := by
  intro k hk
  have h0 := h k hk
  have h1 := hP k hk
  by_cases e : k = j
  · subst e
    rw [va_up_self, hj]
    exact ⟨fun _ => rfl, fun z => absurd (h1.mpr (Or.inr (Or.inr rfl))) z⟩
  · rw [va_up_ne _ _ e]
    by_cases e2 : k = i
    · subst e2
      rw [va_up_self, hi]
      exact ⟨fun _ => rfl, fun z => absurd (h1.mpr (Or.inr (Or.inl rfl))) z⟩
    · rw [va_up_ne _ _ e2]
      refine ⟨fun z => h0.1 ?_, fun z => h0.2 (fun z9 => z (h1.mpr (Or.inl z9)))⟩
      rcases h1.mp z with z9 | z9 | z9
      · exact z9
      · exact absurd z9 e2
      · exact absurd z9 e
theorem InP.no {P P' : Nat → Prop} {N : Nat} {G : Nat → Option Nat} {f : Nat → Int} (h : InP P N G f) (hP : ∀ k, k < N → (P' k ↔ P k) ∨ G k = none) : InP P' N G f := by
  intro k hk
  have h0 := h k hk
  rcases hP k hk with h1 | h1
  · exact ⟨fun z => h0.1 (h1.mp z), fun z => h0.2 (fun z9 => z (h1.mpr z9))⟩
  · have h2 : f k = -1 := by
      by_cases z : P k
      · rw [h0.1 z, h1]; rfl
      · exact h0.2 z
    rw [h2, h1]
    exact ⟨fun _ => rfl, fun _ => rfl⟩
/-- before cell q; behind its right border -/
def pS (w q k : Nat) : Prop := (k % 4 = 0 ∧ k / 4 < q + w) ∨ (k % 4 = 1 ∧ k / 4 < q + 1) ∨ (k % 4 = 2 ∧ k / 4 < q) ∨ (k % 4 = 3 ∧ k / 4 < q)
def pT (w q k : Nat) : Prop := (k % 4 = 0 ∧ k / 4 < q + w) ∨ (k % 4 = 1 ∧ k / 4 < q + 2) ∨ (k % 4 = 2 ∧ k / 4 < q + 1) ∨ (k % 4 = 3 ∧ k / 4 < q)
theorem modS {w q : Nat} (hw : 2 ≤ w ∧ w ≤ 8) (h : q % w + 1 < w) : (q + 1) % w = q % w + 1 := by
  rcases w_cases hw with rfl | rfl | rfl | rfl | rfl | rfl | rfl <;> omega
theorem modZ {w q : Nat} (hw : 2 ≤ w ∧ w ≤ 8) (h : ¬ q % w + 1 < w) : (q + 1) % w = 0 := by
  rcases w_cases hw with rfl | rfl | rfl | rfl | rfl | rfl | rfl <;> omega
theorem rowS {w h q : Nat} (hw : 2 ≤ w ∧ w ≤ 8) (h9 : q / w + 1 < h) : q + w < w * h := by
  have h1 : w * (q / w + 1 + 1) ≤ w * h := Nat.mul_le_mul_left w (by omega)
  have h2 := Nat.div_add_mod q w
  have h3 := Nat.mod_lt q (show w > 0 by omega)
  rw [Nat.mul_add, Nat.mul_add] at h1
  omega
theorem rowZ {w h q : Nat} (hw : 2 ≤ w ∧ w ≤ 8) (h9 : ¬ q / w + 1 < h) : w * h ≤ q + w := by
  have h1 : w * h ≤ w * (q / w + 1) := Nat.mul_le_mul_left w (by omega)
  have h2 := Nat.div_add_mod q w
  rw [Nat.mul_add] at h1
  omega
theorem colS {w h q : Nat} (hw : 2 ≤ w ∧ w ≤ 8) (hq : q < w * h) (h9 : q % w + 1 < w) : q + 1 < w * h := by
  rcases Nat.lt_or_ge (q + 1) (w * h) with h1 | h1
  · exact h1
  · exfalso
    have e : q + 1 = w * h := by omega
    have h2 := modS hw h9
    rw [e, Nat.mul_mod_right] at h2
    omega
theorem pS_0 {w h : Nat} {G : Nat → Option Nat} (hG : G = nbW w h ∨ G = btW w h) : InP (pS w 0) (4 * (w * h)) G (fun _ => -1) := by
  intro k hk
  refine ⟨fun z => ?_, fun _ => rfl⟩
  have e : G k = none := by
    rcases hG with rfl | rfl
    · unfold nbW; rw [if_pos hk]
      rcases z with z | z | z | z
      · rw [if_pos z.1, if_neg (by omega)]
      · rw [if_neg (by omega), if_pos z.1, if_neg (by rw [show k / 4 = 0 by omega, Nat.zero_mod]; omega)]
      · omega
      · omega
    · unfold btW; rw [if_pos hk]
      rcases z with z | z | z | z
      · rw [if_pos z.1, if_neg (by omega)]
      · rw [if_neg (by omega), if_pos z.1, if_neg (by rw [show k / 4 = 0 by omega, Nat.zero_mod]; omega)]
      · omega
      · omega
  rw [e]; rfl
theorem pS_n {w h n : Nat} {G : Nat → Option Nat} {f : Nat → Int} (hn : n = w * h) (H : InP (pS w n) (4 * (w * h)) G f) : ∀ k, k < 4 * n → f k = oZ (G k) := fun k hk => (H k (by omega)).1 (by unfold pS; omega)
section GS
variable {w h q : Nat} {f : Nat → Int}
theorem nbT_yes (hw : 2 ≤ w ∧ w ≤ 8) (hq : q < w * h) (h9 : q % w + 1 < w) (H : InP (pS w q) (4 * (w * h)) (nbW w h) f) : InP (pT w q) (4 * (w * h)) (nbW w h) (va_up (va_up f (4 * q + 2) ((q + 1 : Nat) : Int)) (4 * (q + 1) + (3 - 2)) ((q : Nat) : Int)) := by
  refine InP.up2 H (by rw [nbW_right hq, if_pos h9]) (by rw [show 4 * (q + 1) + (3 - 2) = 4 * (q + 1) + 1 by omega, nbW_left (colS hw hq h9), if_pos (by rw [modS hw h9]; omega)]; rfl) (fun k hk => ?_)
  unfold pS pT
  omega
theorem btT_yes (hw : 2 ≤ w ∧ w ≤ 8) (hq : q < w * h) (h9 : q % w + 1 < w) (H : InP (pS w q) (4 * (w * h)) (btW w h) f) : InP (pT w q) (4 * (w * h)) (btW w h) (va_up (va_up f (4 * q + 2) ((2 * q : Nat) : Int)) (4 * (q + 1) + (3 - 2)) ((2 * q : Nat) : Int)) := by
  refine InP.up2 H (by rw [btW_right hq, if_pos h9]) (by rw [show 4 * (q + 1) + (3 - 2) = 4 * (q + 1) + 1 by omega, btW_left (colS hw hq h9), if_pos (by rw [modS hw h9]; omega)]; rfl) (fun k hk => ?_)
  unfold pS pT
  omega
theorem pT_no (h9 : ¬ q % w + 1 < w) {k : Nat} (hk : k < 4 * (w * h)) : (pT w q k ↔ pS w q k) ∨ k = 4 * q + 2 ∨ k = 4 * (q + 1) + 1 := by
  unfold pS pT
  omega
theorem nbT_no (hw : 2 ≤ w ∧ w ≤ 8) (hq : q < w * h) (h9 : ¬ q % w + 1 < w) (H : InP (pS w q) (4 * (w * h)) (nbW w h) f) : InP (pT w q) (4 * (w * h)) (nbW w h) f := by
  refine H.no (fun k hk => ?_)
  rcases pT_no h9 hk with h1 | rfl | rfl
  · exact Or.inl h1
  · exact Or.inr (by rw [nbW_right hq, if_neg h9])
  · exact Or.inr (by rw [nbW_left (by omega), if_neg (by rw [modZ hw h9]; omega)])
theorem btT_no (hw : 2 ≤ w ∧ w ≤ 8) (hq : q < w * h) (h9 : ¬ q % w + 1 < w) (H : InP (pS w q) (4 * (w * h)) (btW w h) f) : InP (pT w q) (4 * (w * h)) (btW w h) f := by
  refine H.no (fun k hk => ?_)
  rcases pT_no h9 hk with h1 | rfl | rfl
  · exact Or.inl h1
  · exact Or.inr (by rw [btW_right hq, if_neg h9])
  · exact Or.inr (by rw [btW_left (by omega), if_neg (by rw [modZ hw h9]; omega)])
theorem nbU_yes (hw : 2 ≤ w ∧ w ≤ 8) (hq : q < w * h) (h9 : q / w + 1 < h) (H : InP (pT w q) (4 * (w * h)) (nbW w h) f) : InP (pS w (q + 1)) (4 * (w * h)) (nbW w h) (va_up (va_up f (4 * q + 3) ((q + w : Nat) : Int)) (4 * (q + w) + (3 - 3)) ((q : Nat) : Int)) := by
  refine InP.up2 H (by rw [nbW_down hq, if_pos h9]) (by rw [show 4 * (q + w) + (3 - 3) = 4 * (q + w) by omega, nbW_up (rowS hw h9), if_pos (by omega), show q + w - w = q by omega]) (fun k hk => ?_)
  unfold pS pT
  omega
theorem btU_yes (hw : 2 ≤ w ∧ w ≤ 8) (hq : q < w * h) (h9 : q / w + 1 < h) (H : InP (pT w q) (4 * (w * h)) (btW w h) f) : InP (pS w (q + 1)) (4 * (w * h)) (btW w h) (va_up (va_up f (4 * q + 3) ((2 * q + 1 : Nat) : Int)) (4 * (q + w) + (3 - 3)) ((2 * q + 1 : Nat) : Int)) := by
  refine InP.up2 H (by rw [btW_down hq, if_pos h9]) (by rw [show 4 * (q + w) + (3 - 3) = 4 * (q + w) by omega, btW_up (rowS hw h9), if_pos (by omega), show q + w - w = q by omega]) (fun k hk => ?_)
  unfold pS pT
  omega
theorem pU_no (hw : 2 ≤ w ∧ w ≤ 8) (h9 : ¬ q / w + 1 < h) {k : Nat} (hk : k < 4 * (w * h)) : (pS w (q + 1) k ↔ pT w q k) ∨ k = 4 * q + 3 := by
  have h1 := rowZ hw h9
  unfold pS pT
  omega
theorem nbU_no (hw : 2 ≤ w ∧ w ≤ 8) (hq : q < w * h) (h9 : ¬ q / w + 1 < h) (H : InP (pT w q) (4 * (w * h)) (nbW w h) f) : InP (pS w (q + 1)) (4 * (w * h)) (nbW w h) f := by
  refine H.no (fun k hk => ?_)
  rcases pU_no hw h9 hk with h1 | rfl
  · exact Or.inl h1
  · exact Or.inr (by rw [nbW_down hq, if_neg h9])
theorem btU_no (hw : 2 ≤ w ∧ w ≤ 8) (hq : q < w * h) (h9 : ¬ q / w + 1 < h) (H : InP (pT w q) (4 * (w * h)) (btW w h) f) : InP (pS w (q + 1)) (4 * (w * h)) (btW w h) f := by
  refine H.no (fun k hk => ?_)
  rcases pU_no hw h9 hk with h1 | rfl
  · exact Or.inl h1
  · exact Or.inr (by rw [btW_down hq, if_neg h9])
end GS
