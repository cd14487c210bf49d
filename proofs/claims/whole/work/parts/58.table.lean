/-! spreading takes the least over all cells; the class's table holds least trees -/
theorem mh_edge {w h n q u b : Nat} (hW : WH w h n) (he : Ed (nbW w h) (btW w h) q u b) : mh w u q = 1 := by
  have h9 := Ed_lt hW he
  obtain ⟨⟨w1, w2, w3, w4⟩, rfl⟩ := hW
  obtain ⟨hq, hc⟩ := Ed_W.mp he
  unfold mh
  rcases w_cases ⟨w1, w2⟩ with rfl | rfl | rfl | rfl | rfl | rfl | rfl <;> omega
theorem mh_zero {w a b : Nat} (h : mh w a b = 0) : a = b := by
  unfold mh at h
  have h1 := Nat.div_add_mod a w
  have h2 := Nat.div_add_mod b w
  have h3 : a % w = b % w := by omega
  have h4 : a / w = b / w := by omega
  rw [← h1, ← h2, h3, h4]
theorem mh_step {w h n a b d : Nat} (hW : WH w h n) (ha : a < n) (hb : b < n) (hd : mh w a b = d + 1) : ∃ u bb, Ed (nbW w h) (btW w h) b u bb ∧ mh w a u = d := by
  have hW2 := hW
  obtain ⟨⟨w1, w2, w3, w4⟩, rfl⟩ := hW2
  have m1 : a % w < w := Nat.mod_lt _ (by omega)
  have d1 : a / w < h := Nat.div_lt_of_lt_mul ha
  have hd' := hd
  unfold mh at hd'
  have key : ∀ u bb, Ed (nbW w h) (btW w h) b u bb → mh w a u < mh w a b → mh w a u = d := fun u bb he hlt => by
    have h1 := mh_edge hW he
    have h2 := mh_tri w a u b
    omega
  by_cases c1 : b % w < a % w
  · refine ⟨b + 1, 2 * b, ?_⟩
    have he : Ed (nbW w h) (btW w h) b (b + 1) (2 * b) := Ed_W.mpr ⟨hb, Or.inr (Or.inr (Or.inl ⟨by omega, rfl, rfl⟩))⟩
    refine ⟨he, key _ _ he ?_⟩
    unfold mh
    rcases w_cases ⟨w1, w2⟩ with rfl | rfl | rfl | rfl | rfl | rfl | rfl <;> omega
  · by_cases c2 : a % w < b % w
    · refine ⟨b - 1, 2 * (b - 1), ?_⟩
      have he : Ed (nbW w h) (btW w h) b (b - 1) (2 * (b - 1)) := Ed_W.mpr ⟨hb, Or.inr (Or.inl ⟨by omega, rfl, rfl⟩)⟩
      refine ⟨he, key _ _ he ?_⟩
      unfold mh
      rcases w_cases ⟨w1, w2⟩ with rfl | rfl | rfl | rfl | rfl | rfl | rfl <;> omega
    · by_cases c3 : b / w < a / w
      · refine ⟨b + w, 2 * b + 1, ?_⟩
        have he : Ed (nbW w h) (btW w h) b (b + w) (2 * b + 1) := Ed_W.mpr ⟨hb, Or.inr (Or.inr (Or.inr ⟨by omega, rfl, rfl⟩))⟩
        refine ⟨he, key _ _ he ?_⟩
        unfold mh
        rw [Nat.add_mod_right, Nat.add_div_right _ (by omega)]
        omega
      · have c4 : a / w < b / w := by omega
        have c5 : w ≤ b := by
          rcases Nat.lt_or_ge b w with h9 | h9
          · rw [Nat.div_eq_of_lt h9] at c4; exact absurd c4 (Nat.not_lt_zero _)
          · exact h9
        refine ⟨b - w, 2 * (b - w) + 1, ?_⟩
        have he : Ed (nbW w h) (btW w h) b (b - w) (2 * (b - w) + 1) := Ed_W.mpr ⟨hb, Or.inl ⟨c5, rfl, rfl⟩⟩
        refine ⟨he, key _ _ he ?_⟩
        obtain ⟨e, rfl⟩ : ∃ e, b = e + w := ⟨b - w, by omega⟩
        rw [show e + w - w = e by omega]
        unfold mh
        rw [Nat.add_mod_right, Nat.add_div_right _ (by omega)] at *
        omega
theorem lip_path {w h n : Nat} (hW : WH w h n) {g : Nat → Nat} (hg : ∀ q u b, Ed (nbW w h) (btW w h) q u b → g q ≤ g u + 1) {a : Nat} (ha : a < n) : ∀ d b, b < n → mh w a b = d → g b ≤ g a + d := by
  intro d
  induction d with
  | zero => intro b _ h; rw [mh_zero h]; omega
  | succ d ih =>
    intro b hb h
    obtain ⟨u, bb, he, hu⟩ := mh_step hW ha hb h
    have h1 := hg b u bb he
    have h2 := ih u (Ed_lt hW he).2.1 hu
    omega
theorem spR_ed {w h n : Nat} (hW : WH w h n) (f : Nat → Nat) {q u b : Nat} (he : Ed (nbW w h) (btW w h) q u b) : spR (nbW w h) n f q ≤ spR (nbW w h) n f u + 1 := by
  have h9 := Ed_lt hW he
  have hW2 := hW
  obtain ⟨⟨w1, w2, w3, w4⟩, hnw⟩ := hW2
  obtain ⟨hq, hc⟩ := Ed_W.mp he
  rcases hc with ⟨c, e1, e2⟩ | ⟨c, e1, e2⟩ | ⟨c, e1, e2⟩ | ⟨c, e1, e2⟩
  · have h1 := (spR_lip hW f _ u (Nat.le_refl _) h9.2.1).2 (by
      have h2 := Ed_W.mp (Ed_sym hW he)
      rcases w_cases ⟨w1, w2⟩ with rfl | rfl | rfl | rfl | rfl | rfl | rfl <;> omega)
    rw [show u + w = q by omega] at h1
    exact h1
  · have h1 := (spR_lip hW f _ u (Nat.le_refl _) h9.2.1).1 (by
      rcases w_cases ⟨w1, w2⟩ with rfl | rfl | rfl | rfl | rfl | rfl | rfl <;> omega)
    rw [show u + 1 = q by have := Nat.mod_le q w; omega] at h1
    exact h1
  · subst e1
    exact srD_right (f := srU (nbW w h) f n) (by omega) h9.2.1 (by rw [nbW_right hq, if_pos c])
  · subst e1
    exact srD_down (f := srU (nbW w h) f n) (by omega) h9.2.1 (by rw [nbW_down hq, if_pos c])
def Bd (w n : Nat) (f g : Nat → Nat) : Prop := ∀ v, v < n → ∃ z, z < n ∧ f z + mh w z v ≤ g v
theorem Bd.lw {w h n : Nat} (hW : WH w h n) {f g : Nat → Nat} (hB : Bd w n f g) (q d : Nat) (hd : d < 4) : Bd w n f (lwF (nbW w h) g q d) := fun v hv => by
  by_cases e : v = q
  · subst e
    rcases lwF_or (nb := nbW w h) (f := g) (q := v) (d := d) with h1 | ⟨u, h1, h2⟩
    · rw [h1]; exact hB v hv
    · rw [h2]
      have hb : ∃ b, btW w h (4 * v + d) = some b := by
        rcases NB_W hW (4 * v + d) with e | ⟨_, b, _, e2, _⟩
        · rw [e] at h1; cases h1
        · exact ⟨b, e2⟩
      obtain ⟨b, hb⟩ := hb
      have he : Ed (nbW w h) (btW w h) v u b := ⟨d, hd, h1, hb⟩
      obtain ⟨z, hz, hle⟩ := hB u (Ed_lt hW he).2.1
      refine ⟨z, hz, ?_⟩
      have h3 := mh_tri w z u v
      have h4 := mh_edge hW he
      omega
  · rw [lwF_ne e]; exact hB v hv
theorem spR_Bd {w h n : Nat} (hW : WH w h n) (f : Nat → Nat) : Bd w n f (spR (nbW w h) n f) := by
  have h0 : Bd w n f f := fun v hv => ⟨v, hv, by rw [mh_self]; exact Nat.le_refl _⟩
  have h1 : ∀ k, Bd w n f (srU (nbW w h) f k) := fun k => by
    induction k with
    | zero => exact h0
    | succ k ih => exact (ih.lw hW k 0 (by omega)).lw hW k 1 (by omega)
  have h2 : ∀ k, Bd w n f (srD (nbW w h) n (srU (nbW w h) f n) k) := fun k => by
    induction k with
    | zero => exact h1 n
    | succ k ih => exact (ih.lw hW _ 2 (by omega)).lw hW _ 3 (by omega)
  exact h2 n
theorem spR_le {w h n : Nat} (hW : WH w h n) (f : Nat → Nat) {z v : Nat} (hz : z < n) (hv : v < n) : spR (nbW w h) n f v ≤ f z + mh w z v := by
  have h1 := lip_path hW (g := spR (nbW w h) n f) (fun q u b he => spR_ed hW f he) hz _ v hv rfl
  have h2 : spR (nbW w h) n f z ≤ f z := Nat.le_trans (srD_le n z) (srU_le n z)
  omega
/-! parts of a set, as the class takes them -/
theorem fpA_le {rw : Nat → Nat → Nat} {s z : Nat} : ∀ j p, 1 ≤ p → p ≤ j → p &&& s = p → p < s - p → fpA rw s j z ≤ rw p z + rw (s - p) z := by
  intro j
  induction j with
  | zero => intro p h1 h2; omega
  | succ j ih =>
    intro p h1 h2 h3 h4
    rw [fpA_s]
    by_cases e : p = j + 1
    · subst e
      rw [if_pos ⟨h3, h4⟩]
      show (if rw (j + 1) z + rw (s - (j + 1)) z < fpA rw s j z then rw (j + 1) z + rw (s - (j + 1)) z else fpA rw s j z) ≤ _
      split <;> omega
    · have h5 := ih p h1 (by omega) h3 h4
      split
      · show (if rw (j + 1) z + rw (s - (j + 1)) z < fpA rw s j z then rw (j + 1) z + rw (s - (j + 1)) z else fpA rw s j z) ≤ _
        split <;> omega
      · exact h5
theorem fpA_or {rw : Nat → Nat → Nat} {s z : Nat} : ∀ j, fpA rw s j z = 1000000000 ∨ ∃ p, 1 ≤ p ∧ p ≤ j ∧ p &&& s = p ∧ p < s - p ∧ fpA rw s j z = rw p z + rw (s - p) z := by
  intro j
  induction j with
  | zero => exact Or.inl rfl
  | succ j ih =>
    have hold : fpA rw s (j + 1) z = fpA rw s j z → fpA rw s (j + 1) z = 1000000000 ∨ ∃ p, 1 ≤ p ∧ p ≤ j + 1 ∧ p &&& s = p ∧ p < s - p ∧ fpA rw s (j + 1) z = rw p z + rw (s - p) z := fun e => by
      rcases ih with h | ⟨p, h1, h2, h3, h4, h5⟩
      · exact Or.inl (e.trans h)
      · exact Or.inr ⟨p, h1, by omega, h3, h4, e.trans h5⟩
    by_cases hc : (j + 1) &&& s = j + 1 ∧ j + 1 < s - (j + 1)
    · have e1 : fpA rw s (j + 1) z = if rw (j + 1) z + rw (s - (j + 1)) z < fpA rw s j z then rw (j + 1) z + rw (s - (j + 1)) z else fpA rw s j z := by rw [fpA_s, if_pos hc]; rfl
      by_cases hlt : rw (j + 1) z + rw (s - (j + 1)) z < fpA rw s j z
      · exact Or.inr ⟨j + 1, by omega, Nat.le_refl _, hc.1, hc.2, by rw [e1, if_pos hlt]⟩
      · exact hold (by rw [e1, if_neg hlt])
    · exact hold (by rw [fpA_s, if_neg hc])
/-- what a row of either table is to hold -/
def Rw (w n : Nat) (pi : Nat → Nat) (m : Nat) (f : Nat → Nat) : Prop := ∀ z, z < n → Mn w n pi (BX m) z (f z) ∧ f z ≤ 128 * m
theorem Rw_one {w n k : Nat} {pi : Nat → Nat} (hw : 0 < w ∧ w ≤ 8) (hn : n ≤ 64) (hk : pi k < n) : Rw w n pi (2 ^ k) (fun z => mh w z (pi k)) := fun z hz => by
  refine ⟨?_, ?_⟩
  · refine cl_Mn (f := fun z => mh w z (pi k)) (h := fun z => mh w z (pi k)) (fun z hz => by rw [mh_sym]; exact Lc_single) (fun z v _ _ => ?_) (fun v hv => ⟨v, hv, by rw [mh_self]; exact Nat.le_refl _⟩) z hz
    show mh w v (pi k) ≤ mh w z (pi k) + mh w z v
    have h1 := mh_tri w v z (pi k)
    have h2 := mh_sym w v z
    omega
  · have h1 := mh_bd (a := z) (b := pi k) hw (by omega) (by omega)
    have h2 := p2_pos k
    show mh w z (pi k) ≤ 128 * 2 ^ k
    omega
/-- a row of more labels than one, out of the rows of its parts -/
theorem Rw_more {w n s : Nat} {pi : Nat → Nat} {R : Nat → Nat → Nat} {f g : Nat → Nat} (hs : s < 32) (hb : 1 < bcN s) (hR : ∀ p, 1 ≤ p → p < s → p &&& s = p → Rw w n pi p (R p)) (hle : ∀ z, z < n → ∀ p, 1 ≤ p → p < s → p &&& s = p → f z ≤ R p z + R (s - p) z) (hat : ∀ z, z < n → f z = 1000000000 ∨ ∃ p, 1 ≤ p ∧ p < s ∧ p &&& s = p ∧ f z = R p z + R (s - p) z) (h1 : ∀ z v, z < n → v < n → g v ≤ f z + mh w z v) (h2 : Bd w n f g) : Rw w n pi s g := by
  obtain ⟨i, hi5, j, hj5, hij, hi, hj⟩ := bc_multi s hs hb
  have hrest : ∀ p, 1 ≤ p → p < s → p &&& s = p → (s - p) &&& s = s - p := fun p q1 q2 q3 => Nat.eq_of_testBit_eq fun i => by
    have h5 := (mask_to hs (by omega) q3).1 i
    rw [Nat.testBit_and]
    have h6 : s.testBit i = (p.testBit i || (s - p).testBit i) := h5
    rw [h6]
    cases p.testBit i <;> cases (s - p).testBit i <;> rfl
  have hbd : ∀ z, z < n → f z ≤ 128 * s := fun z hz => by
    obtain ⟨p, _, q1, q2, q3⟩ := bc_part s hs hb
    have h3 := hle z hz p q1 (by omega) q3
    have h4 := (hR p q1 (by omega) q3 z hz).2
    have h5 := (hR (s - p) (by omega) (by omega) (hrest p q1 (by omega) q3) z hz).2
    omega
  have hL : ∀ z, z < n → Lc w n pi (BX s) z (f z) := fun z hz => by
    refine Lc_multi (R := fun p => R p z) hs hz ⟨i, j, hij, hi, hj⟩ (fun p q1 q2 q3 => (hR p q1 q2 q3 z hz).1) (hle z hz) ?_
    rcases hat z hz with h | h
    · have := hbd z hz; omega
    · exact h
  intro z hz
  refine ⟨cl_Mn hL h1 h2 z hz, ?_⟩
  have h3 := h1 z z hz hz
  rw [mh_self] at h3
  have h4 := hbd z hz
  omega
theorem lt1_at {w n : Nat} {pi : Nat → Nat} {rw : Nat → Nat → Nat} : ∀ i k, k < i → lt1 w n pi rw i (2 ^ k) = mhF w n (pi k) := by
  intro i
  induction i with
  | zero => intro k h; omega
  | succ i ih =>
    intro k h
    show va_up (lt1 w n pi rw i) (2 ^ i) (mhF w n (pi i)) (2 ^ k) = _
    by_cases e : k = i
    · rw [e, va_up_self]
    · rw [va_up_ne _ _ (pw_ne e)]; exact ih k (by omega)
theorem pw_lt {a b : Nat} (h : 2 ^ a < 2 ^ b) : a < b := by
  rcases Nat.lt_or_ge a b with h1 | h1
  · exact h1
  · have := Nat.pow_le_pow_right (n := 2) (by omega) h1
    omega
theorem lt2_Rw {w h n pn : Nat} {pi : Nat → Nat} {rw : Nat → Nat → Nat} (hW : WH w h n) (hp : pn ≤ 5) (hpi : ∀ k, k < pn → pi k < n) : ∀ j, j < 2 ^ (pn - 1) → (∀ m, 1 ≤ m → m ≤ j → Rw w n pi m (lt2 (nbW w h) n (lt1 w n pi rw (pn - 1)) j m)) ∧ ∀ k, k < pn - 1 → j < 2 ^ k → lt2 (nbW w h) n (lt1 w n pi rw (pn - 1)) j (2 ^ k) = mhF w n (pi k) := by
  have hn := hW.le
  have h16 : 2 ^ (pn - 1) ≤ 16 := by
    have := Nat.pow_le_pow_right (n := 2) (by omega) (show pn - 1 ≤ 4 by omega)
    omega
  intro j
  induction j with
  | zero => intro _; exact ⟨fun m h1 h2 => by omega, fun k hk _ => lt1_at _ k hk⟩
  | succ j ih =>
    intro hj
    obtain ⟨h1, h2⟩ := ih (by omega)
    rw [lt2_s]
    by_cases hb : 1 < bcN (j + 1)
    · rw [if_pos hb]
      refine ⟨fun m q1 q2 => ?_, fun k hk q => ?_⟩
      · by_cases e : m = j + 1
        · subst e
          rw [va_up_self]
          refine Rw_more (s := j + 1) (R := lt2 (nbW w h) n (lt1 w n pi rw (pn - 1)) j) (f := fpA (lt2 (nbW w h) n (lt1 w n pi rw (pn - 1)) j) (j + 1) (j + 1 - 1)) (by omega) hb (fun p r1 r2 _ => h1 p r1 (by omega)) (fun z hz p r1 r2 r3 => ?_) (fun z hz => ?_) (fun z v hz hv => spR_le hW _ hz hv) (spR_Bd hW _)
          · obtain ⟨m1, m2⟩ := mask_to (s := j + 1) (by omega) (show p < 32 by omega) r3
            by_cases c : p < j + 1 - p
            · exact fpA_le _ p r1 (by omega) r3 c
            · have hne : p ≠ j + 1 - p := fun e9 => by
                obtain ⟨i, _, i', _, _, hi, _⟩ := bc_multi (j + 1) (by omega) hb
                have h8 := m1 i
                have h7 := m2 i
                rw [← e9] at h8 h7
                have h6 : BX (j + 1) i = true := hi
                rw [h6] at h8
                cases h5 : BX p i with
                | false => rw [h5] at h8; cases h8
                | true => exact h7 ⟨h5, h5⟩
              have h9 := fpA_le (rw := lt2 (nbW w h) n (lt1 w n pi rw (pn - 1)) j) (s := j + 1) (z := z) (j + 1 - 1) (j + 1 - p) (by omega) (by omega) (Nat.eq_of_testBit_eq fun i => by
                rw [Nat.testBit_and]
                have h6 : (j + 1).testBit i = (p.testBit i || (j + 1 - p).testBit i) := m1 i
                rw [h6]
                cases p.testBit i <;> cases (j + 1 - p).testBit i <;> rfl) (by omega)
              rw [show j + 1 - (j + 1 - p) = p by omega] at h9
              omega
          · rcases fpA_or (rw := lt2 (nbW w h) n (lt1 w n pi rw (pn - 1)) j) (s := j + 1) (z := z) (j + 1 - 1) with h9 | ⟨p, r1, r2, r3, r4, r5⟩
            · exact Or.inl h9
            · exact Or.inr ⟨p, r1, by omega, r3, r5⟩
        · rw [va_up_ne _ _ e]; exact h1 m q1 (by omega)
      · rw [va_up_ne _ _ (by omega)]; exact h2 k hk (by omega)
    · rw [if_neg hb]
      refine ⟨fun m q1 q2 => ?_, fun k hk q => h2 k hk (by omega)⟩
      by_cases e : m = j + 1
      · obtain ⟨k, _, hk⟩ := bc_single (j + 1) (by omega) (by omega) (by omega)
        have hk2 : k < pn - 1 := pw_lt (by omega)
        rw [e, hk, h2 k hk2 (by omega)]
        intro z hz
        have h9 := Rw_one (n := n) (pi := pi) (k := k) (w := w) ⟨by have := hW.1.1; omega, hW.1.2.1⟩ hn (hpi k (by omega)) z hz
        rw [show mhF w n (pi k) z = mh w z (pi k) from if_pos hz]
        exact h9
      · exact h1 m q1 (by omega)
theorem lsV_Mn {w h n pn : Nat} {pi : Nat → Nat} {rw : Nat → Nat → Nat} (hW : WH w h n) (hp2 : 2 ≤ pn) (hp : pn ≤ 5) (hpi : ∀ k, k < pn → pi k < n) : Mn w n pi (fun i => decide (i < pn - 1)) (pi (pn - 1)) (lsV (nbW w h) w n pn pi rw) := by
  have h1 : 2 ≤ 2 ^ (pn - 1) := by
    have := Nat.pow_le_pow_right (n := 2) (by omega) (show 1 ≤ pn - 1 by omega)
    omega
  have h2 := (lt2_Rw (rw := rw) hW hp hpi (2 ^ (pn - 1) - 1) (by omega)).1 (2 ^ (pn - 1) - 1) (by omega) (Nat.le_refl _) (pi (pn - 1)) (hpi _ (by omega))
  rw [BX_top] at h2
  have e : lsV (nbW w h) w n pn pi rw = lt2 (nbW w h) n (lt1 w n pi rw (pn - 1)) (2 ^ (pn - 1) - 1) (2 ^ (pn - 1) - 1) (pi (pn - 1)) := by
    unfold lsV lsR
    rw [if_neg (by omega), if_neg (by omega)]
  rw [e]
  exact h2.1
