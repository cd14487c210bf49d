/-! sets of labels as the bits of a number; least trees by parts -/
def BX (s : Nat) : Nat → Bool := fun i => s.testBit i
theorem BX_top (p : Nat) : BX (2 ^ p - 1) = fun i => decide (i < p) := funext fun i => Nat.testBit_two_pow_sub_one p i
theorem BX_one (k i : Nat) : BX (2 ^ k) i = decide (i = k) := by
  unfold BX
  rw [Nat.testBit_two_pow]
  by_cases h : k = i
  · simp [h]
  · simp [h]; omega
theorem BX_inj {s t : Nat} (h : ∀ i, BX s i = BX t i) : s = t := Nat.eq_of_testBit_eq h
theorem BX_out {s i : Nat} (hs : s < 32) (hi : 5 ≤ i) : BX s i = false := by
  unfold BX
  exact Nat.testBit_lt_two_pow (Nat.lt_of_lt_of_le hs (Nat.pow_le_pow_right (n := 2) (by omega) hi))
def mk5 (A : Nat → Bool) : Nat := (if A 0 = true then 1 else 0) + (if A 1 = true then 2 else 0) + (if A 2 = true then 4 else 0) + (if A 3 = true then 8 else 0) + (if A 4 = true then 16 else 0)
theorem mk5_lt (A : Nat → Bool) : mk5 A < 32 := by unfold mk5; (repeat' split) <;> omega
theorem mk5_dec : ∀ a b c d e : Bool, ∀ i, i < 5 → ((if a = true then 1 else 0) + (if b = true then 2 else 0) + (if c = true then 4 else 0) + (if d = true then 8 else 0) + (if e = true then 16 else 0) : Nat).testBit i = (if i = 0 then a else if i = 1 then b else if i = 2 then c else if i = 3 then d else e) := by decide +kernel
theorem mk5_bit (A : Nat → Bool) {i : Nat} (hi : i < 5) : BX (mk5 A) i = A i := by
  have h := mk5_dec (A 0) (A 1) (A 2) (A 3) (A 4) i hi
  unfold BX mk5
  rw [h]
  rcases (show i = 0 ∨ i = 1 ∨ i = 2 ∨ i = 3 ∨ i = 4 by omega) with rfl | rfl | rfl | rfl | rfl <;> simp
theorem mk5_BX {A : Nat → Bool} (h : ∀ i, 5 ≤ i → A i = false) (i : Nat) : BX (mk5 A) i = A i := by
  by_cases hi : i < 5
  · exact mk5_bit A hi
  · rw [BX_out (mk5_lt A) (by omega), h i (by omega)]
theorem mk5_or {A B X : Nat → Bool} (h3 : ∀ i, X i = (A i || B i)) (h4 : ∀ i, ¬ (A i = true ∧ B i = true)) : mk5 X = mk5 A + mk5 B := by
  have key : ∀ (i v : Nat), (if X i = true then v else 0) = (if A i = true then v else 0) + (if B i = true then v else 0) := fun i v => by
    have h5 := h4 i
    rw [h3]
    cases hA : A i <;> cases hB : B i <;> simp_all
  unfold mk5
  rw [key, key, key, key, key]
  omega
theorem sub_xor : ∀ s, s < 32 → ∀ p, p < 32 → p &&& s = p → s ^^^ p = s - p ∧ p ≤ s := by decide +kernel
/-- a split of a set of labels is a split of its number -/
theorem mask_of {s : Nat} (hs : s < 32) {A B : Nat → Bool} (h3 : ∀ i, BX s i = (A i || B i)) (h4 : ∀ i, ¬ (A i = true ∧ B i = true)) (hA : ∃ i, A i = true) (hB : ∃ i, B i = true) : ∃ p, 1 ≤ p ∧ p < s ∧ p &&& s = p ∧ (∀ i, BX p i = A i) ∧ ∀ i, BX (s - p) i = B i := by
  have oA : ∀ i, 5 ≤ i → A i = false := fun i hi => by
    have h := h3 i; rw [BX_out hs hi] at h
    cases h9 : A i with
    | false => rfl
    | true => rw [h9] at h; cases h
  have oB : ∀ i, 5 ≤ i → B i = false := fun i hi => by
    have h := h3 i; rw [BX_out hs hi, oA i hi] at h
    exact h.symm
  have bA := mk5_BX oA
  have bB := mk5_BX oB
  have bS : mk5 (BX s) = s := BX_inj (mk5_BX (fun i hi => BX_out hs hi))
  have hadd : s = mk5 A + mk5 B := by rw [← mk5_or h3 h4, bS]
  have pos : ∀ {C : Nat → Bool}, (∀ i, BX (mk5 C) i = C i) → (∃ i, C i = true) → 1 ≤ mk5 C := fun {C} hC ⟨i, hi⟩ => by
    rcases Nat.eq_zero_or_pos (mk5 C) with h | h
    · have h9 := hC i
      rw [h, hi] at h9
      unfold BX at h9
      rw [Nat.zero_testBit] at h9
      cases h9
    · exact h
  have pA := pos bA hA
  have pB := pos bB hB
  refine ⟨mk5 A, pA, by omega, Nat.eq_of_testBit_eq (fun i => ?_), bA, fun i => by rw [show s - mk5 A = mk5 B by omega]; exact bB i⟩
  rw [Nat.testBit_and]
  have h1 : (mk5 A).testBit i = A i := bA i
  have h2 : s.testBit i = (A i || B i) := h3 i
  rw [h1, h2]
  cases A i <;> rfl
theorem mask_to {s p : Nat} (hs : s < 32) (hp : p < 32) (h : p &&& s = p) : (∀ i, BX s i = (BX p i || BX (s - p) i)) ∧ ∀ i, ¬ (BX p i = true ∧ BX (s - p) i = true) := by
  rw [← (sub_xor s hs p hp h).1]
  have key : ∀ i, p.testBit i = true → s.testBit i = true := fun i hi => by
    have h9 : (p &&& s).testBit i = p.testBit i := by rw [h]
    rw [Nat.testBit_and, hi] at h9
    simpa using h9
  refine ⟨fun i => ?_, fun i h9 => ?_⟩
  · unfold BX
    rw [Nat.testBit_xor]
    have h5 := key i
    cases h6 : p.testBit i <;> cases h7 : s.testBit i <;> simp_all
  · unfold BX at h9
    rw [Nat.testBit_xor] at h9
    obtain ⟨h10, h11⟩ := h9
    rw [h10, key i h10] at h11
    cases h11
/-- before it is spread: least among the trees that part, or end, at the cell itself -/
def Lc (w n : Nat) (pi : Nat → Nat) (X : Nat → Bool) (z m : Nat) : Prop := (∃ f, ST w n f pi X z m) ∧ (∀ k, (∀ i, X i = decide (i = k)) → m ≤ mh w (pi k) z) ∧ ∀ A B a b f, ST w n f pi A z a → ST w n f pi B z b → (∀ i, X i = (A i || B i)) → (∀ i, ¬ (A i = true ∧ B i = true)) → m ≤ a + b
theorem cl_Mn {w n : Nat} {pi : Nat → Nat} {X : Nat → Bool} {f h : Nat → Nat} (hL : ∀ z, z < n → Lc w n pi X z (f z)) (h1 : ∀ z v, z < n → v < n → h v ≤ f z + mh w z v) (h2 : ∀ v, v < n → ∃ z, z < n ∧ f z + mh w z v ≤ h v) : ∀ v, v < n → Mn w n pi X v (h v) := fun v hv => by
  have low : ∀ g c, ST w n g pi X v c → h v ≤ c := fun g c hs => by
    cases g with
    | zero => exact hs.elim
    | succ g =>
      rcases hs with ⟨k, h3, rfl⟩ | ⟨A, B, y, a, b, h3, h4, h5, h6, h7, rfl⟩
      · have h8 := (hL v hv).2.1 k h3
        have h9 := h1 v v hv hv
        rw [mh_self] at h9
        omega
      · have h8 := (hL y h7).2.2 A B a b g h3 h4 h5 h6
        have h9 := h1 y v h7 hv
        omega
  obtain ⟨z, hz, hle⟩ := h2 v hv
  obtain ⟨g, hs⟩ := (hL z hz).1
  obtain ⟨c', h3, h4⟩ := hs.lip v
  have h5 := low g c' h4
  have h6 : c' = h v := by omega
  exact ⟨⟨g, h6 ▸ h4⟩, low⟩
theorem Lc_single {w n k z : Nat} {pi : Nat → Nat} : Lc w n pi (BX (2 ^ k)) z (mh w (pi k) z) := by
  refine ⟨⟨1, Or.inl ⟨k, BX_one k, rfl⟩⟩, fun k' h => ?_, fun A B a b f h1 h2 h3 h4 => ?_⟩
  · have e : k = k' := of_decide_eq_true (by rw [← h, BX_one, decide_eq_true rfl])
    rw [e]; exact Nat.le_refl _
  · exfalso
    obtain ⟨i, hi⟩ := h1.ne
    obtain ⟨j, hj⟩ := h2.ne
    have e1 : i = k := of_decide_eq_true (by rw [← BX_one, h3, hi]; rfl)
    have e2 : j = k := of_decide_eq_true (by rw [← BX_one, h3, hj, Bool.or_true])
    rw [e1] at hi; rw [e2] at hj
    exact h4 k ⟨hi, hj⟩
theorem Lc_multi {w n s z m : Nat} {pi R : Nat → Nat} (hs : s < 32) (hz : z < n) (h2 : ∃ i j, i ≠ j ∧ BX s i = true ∧ BX s j = true) (hR : ∀ p, 1 ≤ p → p < s → p &&& s = p → Mn w n pi (BX p) z (R p)) (hle : ∀ p, 1 ≤ p → p < s → p &&& s = p → m ≤ R p + R (s - p)) (hat : ∃ p, 1 ≤ p ∧ p < s ∧ p &&& s = p ∧ m = R p + R (s - p)) : Lc w n pi (BX s) z m := by
  have hrest : ∀ p, 1 ≤ p → p < s → p &&& s = p → Mn w n pi (BX (s - p)) z (R (s - p)) := fun p h1 h3 h4 => by
    refine hR (s - p) (by omega) (by omega) (Nat.eq_of_testBit_eq fun i => ?_)
    have h5 := (mask_to hs (by omega) h4).1 i
    rw [Nat.testBit_and]
    have h6 : s.testBit i = (p.testBit i || (s - p).testBit i) := h5
    rw [h6]
    cases p.testBit i <;> cases (s - p).testBit i <;> rfl
  refine ⟨?_, fun k h => ?_, fun A B a b f h1 h3 h4 h5 => ?_⟩
  · obtain ⟨p, h1, h3, h4, rfl⟩ := hat
    obtain ⟨f, s1⟩ := (hR p h1 h3 h4).1
    obtain ⟨g, s2⟩ := (hrest p h1 h3 h4).1
    obtain ⟨h5, h6⟩ := mask_to hs (by omega) h4
    exact ⟨f + g + 1, Or.inr ⟨BX p, BX (s - p), z, _, _, s1.upto (by omega), s2.upto (by omega), h5, h6, hz, by rw [mh_self]; rfl⟩⟩
  · exfalso
    obtain ⟨i, j, hij, hi, hj⟩ := h2
    have e1 : i = k := of_decide_eq_true (by rw [← h, hi])
    have e2 : j = k := of_decide_eq_true (by rw [← h, hj])
    omega
  · obtain ⟨p, q1, q2, q3, q4, q5⟩ := mask_of hs h4 h5 h1.ne h3.ne
    have h6 := (hR p q1 q2 q3).2 f a (h1.ext (fun i => (q4 i).symm))
    have h7 := (hrest p q1 q2 q3).2 f b (h3.ext (fun i => (q5 i).symm))
    have h8 := hle p q1 q2 q3
    omega
theorem bc_single : ∀ m, m < 32 → 1 ≤ m → bcN m ≤ 1 → ∃ k, k < 5 ∧ m = 2 ^ k := by decide +kernel
theorem bc_multi : ∀ m, m < 32 → 1 < bcN m → ∃ i, i < 5 ∧ ∃ j, j < 5 ∧ i ≠ j ∧ m.testBit i = true ∧ m.testBit j = true := by decide +kernel
theorem bc_part : ∀ m, m < 32 → 1 < bcN m → ∃ p, p < 32 ∧ 1 ≤ p ∧ p < m - p ∧ p &&& m = p := by decide +kernel
theorem pw_ne {a b : Nat} (h : a ≠ b) : 2 ^ a ≠ 2 ^ b := fun e => h (of_decide_eq_true (by rw [← BX_one, ← e, BX_one, decide_eq_true rfl]))
