/-! least trees: sets of labels X, a label i stands at the cell pi i, the tree is rooted at v -/
theorem mh_self (w a : Nat) : mh w a a = 0 := by unfold mh; omega
theorem mh_sym (w a b : Nat) : mh w a b = mh w b a := by unfold mh; omega
theorem mh_tri (w a b c : Nat) : mh w a c ≤ mh w a b + mh w b c := by unfold mh; omega
def ST (w n : Nat) : Nat → (Nat → Nat) → (Nat → Bool) → Nat → Nat → Prop
  | 0, _, _, _, _ => False
  | f + 1, pi, X, v, c => (∃ k, (∀ i, X i = decide (i = k)) ∧ c = mh w (pi k) v) ∨ ∃ A B z a b, ST w n f pi A z a ∧ ST w n f pi B z b ∧ (∀ i, X i = (A i || B i)) ∧ (∀ i, ¬ (A i = true ∧ B i = true)) ∧ z < n ∧ c = a + b + mh w z v
theorem ST.up {w n : Nat} {pi : Nat → Nat} {f : Nat} : ∀ {X : Nat → Bool} {v c : Nat}, ST w n f pi X v c → ST w n (f + 1) pi X v c := by
  induction f with
  | zero => intro X v c h; exact h.elim
  | succ f ih =>
    intro X v c h
    rcases h with h | ⟨A, B, z, a, b, h1, h2, h3⟩
    · exact Or.inl h
    · exact Or.inr ⟨A, B, z, a, b, ih h1, ih h2, h3⟩
theorem ST.upto {w n : Nat} {pi : Nat → Nat} {f g : Nat} (hfg : f ≤ g) {X : Nat → Bool} {v c : Nat} (h : ST w n f pi X v c) : ST w n g pi X v c := by
  obtain ⟨d, rfl⟩ : ∃ d, g = f + d := ⟨g - f, by omega⟩
  clear hfg
  induction d with
  | zero => exact h
  | succ d ih => exact ih.up
theorem ST.ne {w n : Nat} {pi : Nat → Nat} {f : Nat} : ∀ {X : Nat → Bool} {v c : Nat}, ST w n f pi X v c → ∃ i, X i = true := by
  induction f with
  | zero => intro X v c h; exact h.elim
  | succ f ih =>
    intro X v c h
    rcases h with ⟨k, h1, _⟩ | ⟨A, B, z, a, b, h1, _, h3, _⟩
    · exact ⟨k, by rw [h1, decide_eq_true rfl]⟩
    · obtain ⟨i, hi⟩ := ih h1
      exact ⟨i, by rw [h3, hi]; rfl⟩
theorem ST.lip {w n : Nat} {pi : Nat → Nat} {f : Nat} {X : Nat → Bool} {z c : Nat} (v : Nat) (h : ST w n f pi X z c) : ∃ c', c' ≤ c + mh w z v ∧ ST w n f pi X v c' := by
  cases f with
  | zero => exact h.elim
  | succ f =>
    rcases h with ⟨k, h1, rfl⟩ | ⟨A, B, y, a, b, h1, h2, h3, h4, h5, rfl⟩
    · exact ⟨_, mh_tri w (pi k) z v, Or.inl ⟨k, h1, rfl⟩⟩
    · exact ⟨a + b + mh w y v, by have := mh_tri w y z v; omega, Or.inr ⟨A, B, y, a, b, h1, h2, h3, h4, h5, rfl⟩⟩
theorem ST.congr {w n : Nat} {f : Nat} {pi pi' : Nat → Nat} : ∀ {X : Nat → Bool} {v c : Nat}, (∀ i, X i = true → pi i = pi' i) → ST w n f pi X v c → ST w n f pi' X v c := by
  induction f with
  | zero => intro X v c _ h; exact h.elim
  | succ f ih =>
    intro X v c hp h
    rcases h with ⟨k, h1, rfl⟩ | ⟨A, B, z, a, b, h1, h2, h3, h4⟩
    · exact Or.inl ⟨k, h1, by rw [hp k (by rw [h1, decide_eq_true rfl])]⟩
    · exact Or.inr ⟨A, B, z, a, b, ih (fun i hi => hp i (by rw [h3, hi]; rfl)) h1, ih (fun i hi => hp i (by rw [h3, hi, Bool.or_true])) h2, h3, h4⟩
theorem ST.ext {w n : Nat} {f : Nat} {pi : Nat → Nat} {X Y : Nat → Bool} {v c : Nat} (h : ST w n f pi X v c) (hX : ∀ i, X i = Y i) : ST w n f pi Y v c := by
  rw [show Y = X from funext fun i => (hX i).symm]; exact h
theorem ST.swap {w n : Nat} {f : Nat} {pi : Nat → Nat} {A B X : Nat → Bool} (h3 : ∀ i, X i = (A i || B i)) (h4 : ∀ i, ¬ (A i = true ∧ B i = true)) : (∀ i, X i = (B i || A i)) ∧ ∀ i, ¬ (B i = true ∧ A i = true) := ⟨fun i => by rw [h3, Bool.or_comm], fun i h => h4 i ⟨h.2, h.1⟩⟩
theorem ST.sub {w n : Nat} {pi1 pi' : Nat → Nat} {k to g c : Nat} {C : Nat → Bool} (hp : ∀ i, i ≠ k → pi1 i = pi' i) (hk : pi1 k = to) (hC : ST w n g pi' C to c) {f : Nat} : ∀ {X : Nat → Bool} {q a : Nat}, ST w n f pi1 X q a → X k = true → (∀ i, i ≠ k → ¬ (X i = true ∧ C i = true)) → ∃ c', c' ≤ a + c ∧ ST w n (f + g) pi' (fun i => (X i && !decide (i = k)) || C i) q c' := by
  induction f with
  | zero => intro X q a h; exact h.elim
  | succ f ih =>
    intro X q a h hXk hd
    have main : ∀ (A B : Nat → Bool) (z a b : Nat), ST w n f pi1 A z a → ST w n f pi1 B z b → (∀ i, X i = (A i || B i)) → (∀ i, ¬ (A i = true ∧ B i = true)) → z < n → A k = true → ∃ c', c' ≤ a + b + mh w z q + c ∧ ST w n (f + 1 + g) pi' (fun i => (X i && !decide (i = k)) || C i) q c' := by
      intro A B z a b h1 h2 h3 h4 h5 hA
      have hB : B k = false := by
        cases h9 : B k with
        | false => rfl
        | true => exact absurd ⟨hA, h9⟩ (h4 k)
      obtain ⟨c1, hc1, s1⟩ := ih h1 hA (fun i hi h9 => hd i hi ⟨by rw [h3, h9.1]; rfl, h9.2⟩)
      have s2 : ST w n f pi' B z b := ST.congr (fun i hi => hp i (fun e => by rw [e, hB] at hi; cases hi)) h2
      refine ⟨c1 + b + mh w z q, by omega, ?_⟩
      rw [show f + 1 + g = (f + g) + 1 by omega]
      refine Or.inr ⟨_, B, z, c1, b, s1, s2.upto (by omega), fun i => ?_, fun i h9 => ?_, h5, rfl⟩
      · show (X i && !decide (i = k) || C i) = ((A i && !decide (i = k) || C i) || B i)
        by_cases e : i = k
        · rw [e, hXk, hA, hB]; simp
        · rw [h3]; simp [e]; cases A i <;> cases B i <;> cases C i <;> rfl
      · by_cases e : i = k
        · rw [e, hB] at h9; cases h9.2
        · have h8 := h9.1
          simp [e] at h8
          rcases h8 with h8 | h8
          · exact h4 i ⟨h8, h9.2⟩
          · exact hd i e ⟨by rw [h3, h9.2, Bool.or_true], h8⟩
    rcases h with ⟨k0, h1, rfl⟩ | ⟨A, B, z, a, b, h1, h2, h3, h4, h5, rfl⟩
    · have e : k = k0 := of_decide_eq_true (by rw [← h1]; exact hXk)
      subst e
      obtain ⟨c', h6, h7⟩ := hC.lip q
      refine ⟨c', by rw [hk]; omega, (h7.upto (show g ≤ f + 1 + g by omega)).ext (fun i => ?_)⟩
      show C i = (X i && !decide (i = k) || C i)
      rw [h1]
      by_cases e : i = k
      · simp [e]
      · simp [e]
    · have h6 : (A k || B k) = true := by rw [← h3]; exact hXk
      cases hA : A k with
      | true => exact main A B z a b h1 h2 h3 h4 h5 hA
      | false =>
        rw [hA] at h6
        obtain ⟨h7, h8⟩ := ST.swap (w := w) (n := n) (f := f) (pi := pi1) h3 h4
        obtain ⟨c', h9, h10⟩ := main B A z b a h2 h1 h7 h8 h5 h6
        exact ⟨c', by omega, h10⟩
theorem ST.reroot {w n : Nat} {pi : Nat → Nat} {k : Nat} {f : Nat} : ∀ {X : Nat → Bool} {v c : Nat}, ST w n f pi X v c → X k = true → v < n → ∃ c' f', c' ≤ c ∧ ST w n f' (va_up pi k v) X (pi k) c' := by
  induction f with
  | zero => intro X v c h; exact h.elim
  | succ f ih =>
    intro X v c h hXk hv
    have main : ∀ (A B : Nat → Bool) (z a b : Nat), ST w n f pi A z a → ST w n f pi B z b → (∀ i, X i = (A i || B i)) → (∀ i, ¬ (A i = true ∧ B i = true)) → z < n → A k = true → ∃ c' f', c' ≤ a + b + mh w z v ∧ ST w n f' (va_up pi k v) X (pi k) c' := by
      intro A B z a b h1 h2 h3 h4 h5 hA
      have hB : B k = false := by
        cases h9 : B k with
        | false => rfl
        | true => exact absurd ⟨hA, h9⟩ (h4 k)
      obtain ⟨a', f1, ha', s1⟩ := ih h1 hA h5
      have s2 : ST w n f (va_up pi k v) B z b := ST.congr (fun i hi => (va_up_ne pi v (fun e => by rw [e, hB] at hi; cases hi)).symm) h2
      have s3 : ST w n (f + 1 + 1) (va_up pi k v) (fun i => decide (i = k) || B i) z (mh w v z + b + mh w z z) := Or.inr ⟨fun i => decide (i = k), B, z, mh w v z, b, Or.inl ⟨k, fun i => rfl, by rw [va_up_self]⟩, s2.up, fun i => rfl, fun i h9 => by
        have e := of_decide_eq_true h9.1
        rw [e, hB] at h9
        exact Bool.noConfusion h9.2, h5, rfl⟩
      rw [mh_self] at s3
      obtain ⟨c', h6, h7⟩ := ST.sub (pi1 := va_up pi k z) (fun i hi => by rw [va_up_ne _ _ hi, va_up_ne _ _ hi]) (va_up_self pi k z) s3 s1 hA (fun i hi h9 => by
        have h8 := h9.2
        simp [hi] at h8
        exact h4 i ⟨h9.1, h8⟩)
      refine ⟨c', _, by have := mh_sym w v z; omega, h7.ext (fun i => ?_)⟩
      show (A i && !decide (i = k) || (decide (i = k) || B i)) = X i
      rw [h3]
      by_cases e : i = k
      · simp [e, hA]
      · simp [e]
    rcases h with ⟨k0, h1, rfl⟩ | ⟨A, B, z, a, b, h1, h2, h3, h4, h5, rfl⟩
    · have e : k = k0 := of_decide_eq_true (by rw [← h1]; exact hXk)
      subst e
      exact ⟨mh w v (pi k), 1, by rw [mh_sym]; exact Nat.le_refl _, Or.inl ⟨k, h1, by rw [va_up_self]⟩⟩
    · have h6 : (A k || B k) = true := by rw [← h3]; exact hXk
      cases hA : A k with
      | true => exact main A B z a b h1 h2 h3 h4 h5 hA
      | false =>
        rw [hA] at h6
        obtain ⟨h7, h8⟩ := ST.swap (w := w) (n := n) (f := f) (pi := pi) h3 h4
        obtain ⟨c', f', h9, h10⟩ := main B A z b a h2 h1 h7 h8 h5 h6
        exact ⟨c', f', by omega, h10⟩
theorem ST.drop {w n : Nat} {pi : Nat → Nat} {j : Nat} {f : Nat} : ∀ {X : Nat → Bool} {v c : Nat}, ST w n f pi X v c → X j = true → (∃ i, i ≠ j ∧ X i = true) → ∃ c', c' ≤ c ∧ ST w n f pi (fun i => X i && !decide (i = j)) v c' := by
  induction f with
  | zero => intro X v c h; exact h.elim
  | succ f ih =>
    intro X v c h hXj hne
    have main : ∀ (A B : Nat → Bool) (z a b : Nat), ST w n f pi A z a → ST w n f pi B z b → (∀ i, X i = (A i || B i)) → (∀ i, ¬ (A i = true ∧ B i = true)) → z < n → A j = true → ∃ c', c' ≤ a + b + mh w z v ∧ ST w n (f + 1) pi (fun i => X i && !decide (i = j)) v c' := by
      intro A B z a b h1 h2 h3 h4 h5 hA
      have hB : B j = false := by
        cases h9 : B j with
        | false => rfl
        | true => exact absurd ⟨hA, h9⟩ (h4 j)
      by_cases hn : ∃ i, i ≠ j ∧ A i = true
      · obtain ⟨a', h6, h7⟩ := ih h1 hA hn
        refine ⟨a' + b + mh w z v, by omega, Or.inr ⟨_, B, z, a', b, h7, h2, fun i => ?_, fun i h9 => ?_, h5, rfl⟩⟩
        · show (X i && !decide (i = j)) = ((A i && !decide (i = j)) || B i)
          by_cases e : i = j
          · rw [e, hB]; simp
          · rw [h3]; simp [e]
        · have h8 := h9.1
          simp at h8
          exact h4 i ⟨h8.1, h9.2⟩
      · obtain ⟨c', h6, h7⟩ := h2.lip v
        refine ⟨c', by omega, h7.up.ext (fun i => ?_)⟩
        show B i = (X i && !decide (i = j))
        by_cases e : i = j
        · rw [e, hB]; simp
        · have h8 : A i = false := by
            cases h9 : A i with
            | false => rfl
            | true => exact absurd ⟨i, e, h9⟩ hn
          rw [h3, h8]; simp [e]
    rcases h with ⟨k0, h1, rfl⟩ | ⟨A, B, z, a, b, h1, h2, h3, h4, h5, rfl⟩
    · obtain ⟨i, hi, hXi⟩ := hne
      have e1 : j = k0 := of_decide_eq_true (by rw [← h1]; exact hXj)
      have e2 : i = k0 := of_decide_eq_true (by rw [← h1]; exact hXi)
      exact absurd (e2.trans e1.symm) hi
    · have h6 : (A j || B j) = true := by rw [← h3]; exact hXj
      cases hA : A j with
      | true => exact main A B z a b h1 h2 h3 h4 h5 hA
      | false =>
        rw [hA] at h6
        obtain ⟨h7, h8⟩ := ST.swap (w := w) (n := n) (f := f) (pi := pi) h3 h4
        obtain ⟨c', h9, h10⟩ := main B A z b a h2 h1 h7 h8 h5 h6
        exact ⟨c', by omega, h10⟩
def Mn (w n : Nat) (pi : Nat → Nat) (X : Nat → Bool) (v m : Nat) : Prop := (∃ f, ST w n f pi X v m) ∧ ∀ f c, ST w n f pi X v c → m ≤ c
theorem Mn.uniq {w n : Nat} {pi : Nat → Nat} {X : Nat → Bool} {v m m' : Nat} (h : Mn w n pi X v m) (h' : Mn w n pi X v m') : m = m' := by
  obtain ⟨⟨f, h1⟩, h2⟩ := h
  obtain ⟨⟨f', h1'⟩, h2'⟩ := h'
  exact Nat.le_antisymm (h2 _ _ h1') (h2' _ _ h1)
/-- all labels at the first one's cell, and all but the last at the last one's -/
theorem Mn.root {w n p m m' : Nat} {pi : Nat → Nat} (hp : 2 ≤ p) (hpi : ∀ k, k < p → pi k < n) (h : Mn w n pi (fun i => decide (i < p)) (pi 0) m) (h' : Mn w n pi (fun i => decide (i < p - 1)) (pi (p - 1)) m') : m = m' := by
  refine Nat.le_antisymm ?_ ?_
  · obtain ⟨f, h1⟩ := h'.1
    have hl : pi (p - 1) < n := hpi _ (by omega)
    have h0 : pi 0 < n := hpi _ (by omega)
    have s2 : ST w n 2 (va_up pi (p - 1) (pi 0)) (fun i => decide (i = 0) || decide (i = p - 1)) (pi 0) (0 + 0 + mh w (pi 0) (pi 0)) := Or.inr ⟨fun i => decide (i = 0), fun i => decide (i = p - 1), pi 0, 0, 0, Or.inl ⟨0, fun i => rfl, by rw [va_up_ne _ _ (by omega), mh_self]⟩, Or.inl ⟨p - 1, fun i => rfl, by rw [va_up_self, mh_self]⟩, fun i => rfl, fun i h9 => by
      have e1 := of_decide_eq_true h9.1
      have e2 := of_decide_eq_true h9.2
      omega, h0, rfl⟩
    rw [mh_self] at s2
    have h1' : ST w n f (va_up pi (p - 1) (pi 0)) (fun i => decide (i < p - 1)) (pi (p - 1)) m' := ST.congr (fun i hi => (va_up_ne _ _ (by have := of_decide_eq_true hi; omega)).symm) h1
    obtain ⟨c1, hc1, s3⟩ := ST.sub (pi1 := va_up pi (p - 1) (pi 0)) (k := 0) (fun i _ => rfl) (va_up_ne _ _ (by omega)) s2 h1' (decide_eq_true (by omega)) (fun i hi h9 => by
      have e1 := of_decide_eq_true h9.1
      have e2 := h9.2
      simp [hi] at e2
      omega)
    have s4 : ST w n (f + 2) (va_up pi (p - 1) (pi 0)) (fun i => decide (i < p)) (pi (p - 1)) c1 := s3.ext (fun i => by
      show (decide (i < p - 1) && !decide (i = 0) || (decide (i = 0) || decide (i = p - 1))) = decide (i < p)
      by_cases e0 : i = 0
      · subst e0; simp; omega
      · by_cases e1 : i = p - 1
        · subst e1; simp; omega
        · by_cases e2 : i < p - 1
          · simp [e0, e1, e2]; omega
          · simp [e0, e1, e2]; omega)
    obtain ⟨c2, f2, hc2, s5⟩ := ST.reroot (k := p - 1) s4 (decide_eq_true (by omega)) hl
    have e5 : va_up (va_up pi (p - 1) (pi 0)) (p - 1) (pi (p - 1)) = pi := by
      funext i
      by_cases e : i = p - 1
      · rw [e, va_up_self]
      · rw [va_up_ne _ _ e, va_up_ne _ _ e]
    rw [e5, va_up_self] at s5
    have := h.2 _ _ s5
    omega
  · obtain ⟨f, h1⟩ := h.1
    have h0 : pi 0 < n := hpi _ (by omega)
    obtain ⟨c1, f1, hc1, s1⟩ := ST.reroot (k := p - 1) h1 (decide_eq_true (by omega)) h0
    obtain ⟨c2, hc2, s2⟩ := ST.drop (j := p - 1) s1 (decide_eq_true (by omega)) ⟨0, by omega, decide_eq_true (by omega)⟩
    have s3 : ST w n f1 (va_up pi (p - 1) (pi 0)) (fun i => decide (i < p - 1)) (pi (p - 1)) c2 := s2.ext (fun i => by
      show (decide (i < p) && !decide (i = p - 1)) = decide (i < p - 1)
      by_cases e1 : i = p - 1
      · subst e1; simp
      · by_cases e2 : i < p - 1
        · simp [e1, e2]; omega
        · simp [e1, e2]; omega)
    have s4 : ST w n f1 pi (fun i => decide (i < p - 1)) (pi (p - 1)) c2 := ST.congr (fun i hi => va_up_ne _ _ (by have := of_decide_eq_true hi; omega)) s3
    have := h'.2 _ _ s4
    omega
