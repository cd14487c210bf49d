/-! what holds between two calls of the law -/
def RI (n nc : Nat) (S : RS) : Prop := Inv n nc S ∧ RLc n nc S.2.1 S.2.2 ∧ ∀ j, nc ≤ j → S.2.2 j = -1 ∧ ∀ k, S.2.1 j k = false
theorem RI.ld {n nc : Nat} {S : RS} (h : RI n nc S) (hn : n ≤ 64) {t : Nat} (ht : t < nc) (r : Nat → Bool) : RI n nc (adU (sbU S.1 (S.2.1 t)) r, va_up S.2.1 t r, va_up S.2.2 t ((cnt r (2 * n) : Nat) : Int)) := by
  refine ⟨h.1.ld hn ht r, fun i hi => ?_, fun j hj => ?_⟩
  · show va_up S.2.2 t _ i = -1 ∨ va_up S.2.2 t _ i = ((cnt (va_up S.2.1 t r i) (2 * n) : Nat) : Int)
    by_cases e : i = t
    · subst e; rw [va_up_self, va_up_self]; exact Or.inr rfl
    · rw [va_up_ne _ _ e, va_up_ne _ _ e]; exact h.2.1 i hi
  · show va_up S.2.2 t _ j = -1 ∧ ∀ k, va_up S.2.1 t r j k = false
    rw [va_up_ne _ _ (show j ≠ t by omega), va_up_ne _ _ (show j ≠ t by omega)]
    exact h.2.2 j hj
theorem RI.pl {n nc : Nat} {S : RS} (h : RI n nc S) (hn : n ≤ 64) (nb bt : Nat → Option Nat) {cap : Nat → Nat} (hi : Nat → Nat) {pn : Nat → Nat} {pi : Nat → Nat → Nat} {i : Nat} (hi0 : i ≤ nc) : RI n nc (plS nb bt n cap hi pn pi S i) := by
  induction i with
  | zero => exact h
  | succ i ih =>
    rw [plS_s]
    split
    · exact (ih (by omega)).ld hn (by omega) _
    · exact ih (by omega)
theorem RI.rn {nb bt : Nat → Option Nat} {n nc : Nat} {cap pn : Nat → Nat} {pi : Nat → Nat → Nat} (hn : n ≤ 64) (f : Nat) : ∀ X : RS × (Nat → Nat), RI n nc X.1 → RI n nc (rnN nb bt n nc cap pn pi f X).2.1 := by
  induction f with
  | zero => intro X h; exact h
  | succ f ih =>
    intro X h
    by_cases e : dnB n nc cap pn X.1 = true
    · rw [rnN_stop e]; exact h
    · rw [rnN_go (by simpa using e)]
      exact ih _ (h.pl hn nb bt X.2 (Nat.le_refl _))
theorem rn_hi {nb bt : Nat → Option Nat} {n nc : Nat} {cap pn : Nat → Nat} {pi : Nat → Nat → Nat} {N : Nat} (f : Nat) : ∀ (X : RS × (Nat → Nat)) (B : Nat), (∀ k, k < N → X.2 k ≤ B) → ∀ k, k < N → (rnN nb bt n nc cap pn pi f X).2.2 k ≤ B + f := by
  induction f with
  | zero => intro X B h; exact h
  | succ f ih =>
    intro X B h k hk
    by_cases e : dnB n nc cap pn X.1 = true
    · rw [rnN_stop e]; have := h k hk; show X.2 k ≤ _; omega
    · rw [rnN_go (by simpa using e)]
      have h1 := ih (rdS nb bt n nc cap pn pi X) (B + 1) (fun k hk => by
        have h9 := h k hk
        show X.2 k + (if _ then 1 else 0) ≤ B + 1
        split <;> omega) k hk
      show (rnN nb bt n nc cap pn pi f (rdS nb bt n nc cap pn pi X)).2.2 k ≤ _
      omega
theorem rn_le {nb bt : Nat → Option Nat} {n nc : Nat} {cap pn : Nat → Nat} {pi : Nat → Nat → Nat} (f : Nat) : ∀ X : RS × (Nat → Nat), (rnN nb bt n nc cap pn pi f X).1 ≤ f := by
  induction f with
  | zero => intro X; exact Nat.le_refl 0
  | succ f ih =>
    intro X
    by_cases e : dnB n nc cap pn X.1 = true
    · rw [rnN_stop e]; exact Nat.zero_le _
    · rw [rnN_go (by simpa using e)]
      have h1 := ih (rdS nb bt n nc cap pn pi X)
      show (rnN nb bt n nc cap pn pi f (rdS nb bt n nc cap pn pi X)).1 + 1 ≤ f + 1
      omega
theorem RI.drop {n nc : Nat} {us : Nat → Nat} {ro : Nat → Nat → Bool} {rl : Nat → Int} (h : RI n nc (us, ro, rl)) (hn : n ≤ 64) {t : Nat} (ht : t < nc) : RI n nc (sbU us (ro t), va_up ro t (fun _ => false), va_up rl t (-1)) := by
  obtain ⟨⟨a1, a2, a3⟩, b, d⟩ := h.ld hn ht (fun _ => false)
  refine ⟨⟨fun k hk => ?_, fun i hi e k hk => ?_, fun i hi => ?_⟩, fun i hi => ?_, fun j hj => ?_⟩
  · have h1 : adU (sbU us (ro t)) (fun _ => false) k = _ := a1 k hk
    have h2 : adU (sbU us (ro t)) (fun _ => false) k = sbU us (ro t) k := by unfold adU; simp
    rw [h2] at h1
    exact h1
  · show va_up ro t (fun _ => false) i k = false
    by_cases e9 : i = t
    · subst e9; rw [va_up_self]
    · rw [va_up_ne _ _ e9]
      have e' : va_up rl t (-1) i = -1 := e
      rw [va_up_ne _ _ e9] at e'
      exact h.1.2.1 i hi e' k hk
  · show -1 ≤ va_up rl t (-1) i ∧ va_up rl t (-1) i ≤ 128
    by_cases e9 : i = t
    · subst e9; rw [va_up_self]; omega
    · rw [va_up_ne _ _ e9]; exact h.1.2.2 i hi
  · show va_up rl t (-1) i = -1 ∨ _
    by_cases e9 : i = t
    · subst e9; rw [va_up_self]; exact Or.inl rfl
    · have h1 := h.2.1 i hi
      show va_up rl t (-1) i = -1 ∨ va_up rl t (-1) i = ((cnt (va_up ro t (fun _ => false) i) (2 * n) : Nat) : Int)
      rw [va_up_ne _ _ e9, va_up_ne _ _ e9]
      exact h1
  · show va_up rl t (-1) j = -1 ∧ ∀ k, va_up ro t (fun _ => false) j k = false
    rw [va_up_ne _ _ (show j ≠ t by omega), va_up_ne _ _ (show j ≠ t by omega)]
    exact h.2.2 j hj
theorem RI.net {n nc : Nat} {us : Nat → Nat} {ro : Nat → Nat → Bool} {rl : Nat → Int} (h : RI n nc (us, ro, rl)) : RI n (nc + 1) (us, ro, rl) := by
  obtain ⟨⟨a1, a2, a3⟩, b, d⟩ := h
  obtain ⟨d1, d2⟩ := d nc (Nat.le_refl _)
  refine ⟨⟨fun k hk => ?_, fun i hi e k hk => ?_, fun i hi => ?_⟩, fun i hi => ?_, fun j hj => d j (by omega)⟩
  · show us k = cnt (fun i => ro i k) (nc + 1)
    rw [cnt_s, show ro nc k = false from d2 k]
    exact a1 k hk
  · by_cases e9 : i = nc
    · subst e9; exact d2 k
    · exact a2 i (by omega) e k hk
  · by_cases e9 : i = nc
    · subst e9; rw [d1]; omega
    · exact a3 i (by omega)
  · by_cases e9 : i = nc
    · subst e9; exact Or.inl d1
    · exact b i (by omega)
def GI (n nc rc : Nat) (cap hi pn : Nat → Nat) (pi : Nat → Nat → Nat) (S : RS) (t : Nat) : Prop := nc ≤ 12 ∧ (∀ k, k < 2 * n → cap k ≤ 20) ∧ (∀ k, k < 2 * n → hi k ≤ 10 * t) ∧ (∀ j, pn j ≤ 5) ∧ (∀ j k, k < pn j → pi j k < n) ∧ (∀ j k, pi j k < 64) ∧ RI n nc S ∧ rc ≤ 10 * t
section GG
variable {n nc rc t : Nat} {cap hi pn us : Nat → Nat} {pi : Nat → Nat → Nat} {S : RS} {ro : Nat → Nat → Bool} {rl : Nat → Int}
theorem GI.mono (h : GI n nc rc cap hi pn pi S t) : GI n nc rc cap hi pn pi S (t + 1) := by
  obtain ⟨h1, h2, h3, h4, h5, h6, h7, h8⟩ := h
  exact ⟨h1, h2, fun k hk => by have := h3 k hk; omega, h4, h5, h6, h7, by omega⟩
theorem GI.capa {b v : Nat} (h : GI n nc rc cap hi pn pi S t) (hv : v ≤ 20) : GI n nc rc (va_up cap b v) hi pn pi S (t + 1) := by
  obtain ⟨h1, h2, h3, h4, h5, h6, h7, h8⟩ := h.mono
  refine ⟨h1, fun k hk => ?_, h3, h4, h5, h6, h7, h8⟩
  unfold va_up
  split
  · exact hv
  · exact h2 k hk
theorem GI.net (h : GI n nc rc cap hi pn pi (us, ro, rl) t) (hv : nc < 12) : GI n (nc + 1) rc cap hi pn pi (us, ro, rl) (t + 1) := by
  obtain ⟨h1, h2, h3, h4, h5, h6, h7, h8⟩ := h.mono
  exact ⟨hv, h2, h3, h4, h5, h6, h7.net, h8⟩
theorem GI.rip {j : Nat} (h : GI n nc rc cap hi pn pi (us, ro, rl) t) (hn : n ≤ 64) (hj : j < nc) : GI n nc rc cap hi pn pi (sbU us (ro j), va_up ro j (fun _ => false), va_up rl j (-1)) (t + 1) := by
  obtain ⟨h1, h2, h3, h4, h5, h6, h7, h8⟩ := h.mono
  exact ⟨h1, h2, h3, h4, h5, h6, h7.drop hn hj, h8⟩
theorem GI.pin {j q : Nat} (h : GI n nc rc cap hi pn pi (us, ro, rl) t) (hn : n ≤ 64) (hj : j < nc) (hq : q < n) (h9 : pn j < 5) : GI n nc rc cap hi (va_up pn j (pn j + 1)) (va_up pi j (va_up (pi j) (pn j) q)) (sbU us (ro j), va_up ro j (fun _ => false), va_up rl j (-1)) (t + 1) := by
  obtain ⟨h1, h2, h3, h4, h5, h6, h7, h8⟩ := h.rip hn hj
  refine ⟨h1, h2, h3, fun i => ?_, fun i k hk => ?_, fun i k => ?_, h7, h8⟩
  · by_cases e : i = j
    · subst e; rw [va_up_self]; omega
    · rw [va_up_ne _ _ e]; exact h4 i
  · by_cases e : i = j
    · subst e
      rw [va_up_self] at hk ⊢
      by_cases e2 : k = pn i
      · subst e2; rw [va_up_self]; exact hq
      · rw [va_up_ne _ _ e2]; exact h5 i k (by omega)
    · rw [va_up_ne _ _ e] at hk ⊢
      exact h5 i k hk
  · by_cases e : i = j
    · subst e
      rw [va_up_self]
      by_cases e2 : k = pn i
      · subst e2; rw [va_up_self]; omega
      · rw [va_up_ne _ _ e2]; exact h6 i k
    · rw [va_up_ne _ _ e]; exact h6 i k
theorem GI.lead {nb bt : Nat → Option Nat} {j : Nat} (h : GI n nc rc cap hi pn pi S t) (hn : n ≤ 64) (hj : j < nc) : GI n nc rc cap hi pn pi (ldS nb bt n cap hi pn pi j S) (t + 1) := by
  obtain ⟨h1, h2, h3, h4, h5, h6, h7, h8⟩ := h.mono
  exact ⟨h1, h2, h3, h4, h5, h6, h7.ld hn hj _, h8⟩
theorem GI.run {nb bt : Nat → Option Nat} {f : Nat} (h : GI n nc rc cap hi pn pi S t) (hn : n ≤ 64) (hf : f ≤ 10) : GI n nc (rc + (rnN nb bt n nc cap pn pi f (S, hi)).1) cap (rnN nb bt n nc cap pn pi f (S, hi)).2.2 pn pi (rnN nb bt n nc cap pn pi f (S, hi)).2.1 (t + 1) := by
  obtain ⟨h1, h2, h3, h4, h5, h6, h7, h8⟩ := h
  refine ⟨h1, h2, fun k hk => ?_, h4, h5, h6, RI.rn hn f (S, hi) h7, ?_⟩
  · have := rn_hi (nb := nb) (bt := bt) (n := n) (nc := nc) (cap := cap) (pn := pn) (pi := pi) f (S, hi) (10 * t) h3 k hk
    omega
  · have := rn_le (nb := nb) (bt := bt) (n := n) (nc := nc) (cap := cap) (pn := pn) (pi := pi) f (S, hi)
    omega
theorem GI.forget (h : GI n nc rc cap hi pn pi S t) : GI n nc rc cap (fun _ => 0) pn pi S (t + 1) := by
  obtain ⟨h1, h2, h3, h4, h5, h6, h7, h8⟩ := h.mono
  exact ⟨h1, h2, fun k hk => Nat.zero_le _, h4, h5, h6, h7, h8⟩
theorem GI.start {n c0 : Nat} (hc0 : c0 ≤ 20) (hn : 0 < n) : GI n 0 0 (fun _ => c0) (fun _ => 0) (fun _ => 0) (fun _ _ => 0) ((fun _ => 0), (fun _ _ => false), (fun _ => -1)) 0 := by
  refine ⟨by omega, fun _ _ => hc0, fun _ _ => Nat.le_refl 0, fun _ => Nat.zero_le _, fun _ _ h => absurd h (Nat.not_lt_zero _), fun _ _ => by show 0 < 64; omega, ⟨⟨fun k hk => rfl, fun i hi => absurd hi (Nat.not_lt_zero _), fun i hi => absurd hi (Nat.not_lt_zero _)⟩, fun i hi => absurd hi (Nat.not_lt_zero _), fun j hj => ⟨rfl, fun _ => rfl⟩⟩, Nat.le_refl 0⟩
end GG
theorem WH.xy {w h n : Nat} (hW : WH w h n) : ∀ x y, x < w → y < h → x + w * y < n := by
  intro x y hx hy
  rw [hW.2]
  have h1 : w * (y + 1) ≤ w * h := Nat.mul_le_mul_left w hy
  rw [Nat.mul_add] at h1
  omega
section LQ
variable {p : Program} {l : Launch} {e : Env} {R : Room} {s : State} {m : MethodId} {args : Array Value} {below : List Frame} {meth : Method} {c : Code} {nL cells slots : Nat} {Q : State → Prop} {Hp : va_W → Heap → List Loc → Prop} {ws : va_W} {lv : List (Nat × Value)} {pc : Nat} {st : List Value}
variable {cc : ByteArray} {Ts : List Cond} {own : String} {D : va_G} {K : Nat → ClassId}
theorem q_lcmpE (hc : Cx p s m args c cc nL Ts own D K Hp) {x y : Int64} (hd : decode cc pc = .ok (.lcmp, 1)) (h : x = y) (k : V p l e R s m args below meth c nL cells slots Q Hp ws lv (pc + 1) (.int (iZ ((0 : Nat) : Int)) :: st)) : V p l e R s m args below meth c nL cells slots Q Hp ws lv (pc) (.long y :: .long x :: st) := fun H locs ls hH h9 => by
  subst h
  have k9 := k H locs ls hH h9
  exact lv_lcmpE hc.1.1 hc.1.2.1 hd (fun z => absurd z Int64.lt_irrefl) rfl k9
end LQ
theorem and_nI (a b : Nat) : nI a &&& nI b = nI (a &&& b) := by
  apply Int32.toBitVec_inj.1
  show BitVec.ofNat 32 a &&& BitVec.ofNat 32 b = BitVec.ofNat 32 (a &&& b)
  apply BitVec.eq_of_getLsbD_eq
  intro i hi
  simp [hi]
theorem and15 (x : Int32) : ∃ j : Nat, j < 16 ∧ x &&& iZ ((15 : Nat) : Int) = iZ ((j : Nat) : Int) := by
  obtain ⟨k, rfl⟩ : ∃ k, x = nI k := ⟨x.toBitVec.toNat, by
    apply Int32.toBitVec_inj.1
    show x.toBitVec = BitVec.ofNat 32 x.toBitVec.toNat
    simp⟩
  refine ⟨k % 16, Nat.mod_lt _ (by omega), ?_⟩
  rw [iZ_nI, iZ_nI, and_nI, show (15 : Nat) = 2 ^ 4 - 1 from rfl, Nat.and_two_pow_sub_one_eq_mod]
