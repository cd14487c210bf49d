/-! long compare; arrays of longs that hold Nats -/
section LC
variable {p : Program} {l : Launch} {e : Env} {R : Room} {s : State} {m : MethodId} {args : Array Value} {below : List Frame} {meth : Method} {c : Code} {H : Heap} {locs : List Loc} {cells slots : Nat} {Q : State → Prop} {cc : ByteArray} {pc : Nat} {ls : Array Slot} {rest : List Value}
theorem lv_lcmpG (hexec : p.tables.exec = Jvm.exec) (hb : c.code = cc) {x y : Int64} (hdg : decode cc pc = .ok (.lcmp, 1)) (h : x > y) (k : W p l e R s m args below meth c H locs cells slots Q (F0 m (pc + 1) ls (.int 1 :: rest))) : W p l e R s m args below meth c H locs cells slots Q (F0 m pc ls (.long y :: .long x :: rest)) := by
  intro T hT X
  obtain ⟨t, a, b⟩ := k T hT X
  refine ⟨t, ?_, b⟩
  jvm_step X.here [X.here.top, hexec, hb, hdg, h]
  exact a
theorem lv_lcmpE (hexec : p.tables.exec = Jvm.exec) (hb : c.code = cc) {x y : Int64} (hdg : decode cc pc = .ok (.lcmp, 1)) (h : ¬ x > y) (h2 : x = y) (k : W p l e R s m args below meth c H locs cells slots Q (F0 m (pc + 1) ls (.int 0 :: rest))) : W p l e R s m args below meth c H locs cells slots Q (F0 m pc ls (.long y :: .long x :: rest)) := by
  intro T hT X
  obtain ⟨t, a, b⟩ := k T hT X
  refine ⟨t, ?_, b⟩
  subst h2
  jvm_step X.here [X.here.top, hexec, hb, hdg, h]
  exact a
theorem lv_lcmpL (hexec : p.tables.exec = Jvm.exec) (hb : c.code = cc) {x y : Int64} (hdg : decode cc pc = .ok (.lcmp, 1)) (h : ¬ x > y) (h2 : ¬ x = y) (k : W p l e R s m args below meth c H locs cells slots Q (F0 m (pc + 1) ls (.int (-1) :: rest))) : W p l e R s m args below meth c H locs cells slots Q (F0 m pc ls (.long y :: .long x :: rest)) := by
  intro T hT X
  obtain ⟨t, a, b⟩ := k T hT X
  refine ⟨t, ?_, b⟩
  jvm_step X.here [X.here.top, hexec, hb, hdg, h, h2]
  exact a
end LC
section QL
variable {p : Program} {l : Launch} {e : Env} {R : Room} {s : State} {m : MethodId} {args : Array Value} {below : List Frame} {meth : Method} {c : Code} {nL cells slots : Nat} {Q : State → Prop} {Hp : va_W → Heap → List Loc → Prop} {ws : va_W} {lv : List (Nat × Value)} {pc : Nat} {st : List Value}
variable {cc : ByteArray} {Ts : List Cond} {own : String} {D : va_G} {K : Nat → ClassId} {A : Nat → Prop}
def cmZ (x y : Int) : Int := if y < x then 1 else if x = y then 0 else -1
abbrev jN (K : Nat → ClassId) (n : Nat) (f : Nat → Nat) : va_E := .inl (K 2, n, .inr (.inl (fun k => jZ ((f k : Nat) : Int))))
theorem q_lcmp (hc : Cx p s m args c cc nL Ts own D K Hp) {x y : Int} (hd : decode cc pc = .ok (.lcmp, 1)) (hx : -9223372036854775808 ≤ x ∧ x < 9223372036854775808) (hy : -9223372036854775808 ≤ y ∧ y < 9223372036854775808) (k : V p l e R s m args below meth c nL cells slots Q Hp ws lv (pc + 1) (.int (iZ (cmZ x y)) :: st)) : V p l e R s m args below meth c nL cells slots Q Hp ws lv (pc) (.long (jZ y) :: .long (jZ x) :: st) := fun H locs ls hH h => by
  have k9 := k H locs ls hH h
  by_cases c1 : y < x
  · rw [show cmZ x y = 1 from if_pos c1] at k9
    exact lv_lcmpG hc.1.1 hc.1.2.1 hd ((jZ_lt hy hx).mpr c1) k9
  · have c1' : ¬ jZ x > jZ y := fun z => c1 ((jZ_lt hy hx).mp z)
    by_cases c2 : x = y
    · rw [show cmZ x y = 0 from (if_neg c1).trans (if_pos c2)] at k9
      exact lv_lcmpE hc.1.1 hc.1.2.1 hd c1' (congrArg jZ c2) k9
    · rw [show cmZ x y = -1 from (if_neg c1).trans (if_neg c2)] at k9
      exact lv_lcmpL hc.1.1 hc.1.2.1 hd c1' (fun z => c2 ((jZ_eq hx hy).mp z)) k9
theorem cmZ_r (x y : Int) : -2147483648 ≤ cmZ x y ∧ cmZ x y < 2147483648 := by unfold cmZ; split <;> (try split) <;> omega
theorem q_cm_ge (hc : Cx p s m args c cc nL Ts own D K Hp) {x y : Int} {off : Int} (tgt : Nat) (hd : decode cc pc = .ok (.ifCond .ge off, 3)) (ht : (pc : Int) + off = (tgt : Int)) (kt : y ≤ x → V p l e R s m args below meth c nL cells slots Q Hp ws lv (tgt) (st)) (kf : ¬ (y ≤ x) → V p l e R s m args below meth c nL cells slots Q Hp ws lv (pc + 3) (st)) : V p l e R s m args below meth c nL cells slots Q Hp ws lv (pc) (.int (iZ (cmZ x y)) :: st) := q_if_ge hc tgt hd ht (cmZ_r x y) (fun h => kt (by unfold cmZ at h; split at h <;> (try split at h) <;> omega)) (fun h => kf (by unfold cmZ at h; split at h <;> (try split at h) <;> omega))
theorem q_cm_ne (hc : Cx p s m args c cc nL Ts own D K Hp) {x y : Int} {off : Int} (tgt : Nat) (hd : decode cc pc = .ok (.ifCond .ne off, 3)) (ht : (pc : Int) + off = (tgt : Int)) (kt : ¬ x = y → V p l e R s m args below meth c nL cells slots Q Hp ws lv (tgt) (st)) (kf : ¬ (¬ x = y) → V p l e R s m args below meth c nL cells slots Q Hp ws lv (pc + 3) (st)) : V p l e R s m args below meth c nL cells slots Q Hp ws lv (pc) (.int (iZ (cmZ x y)) :: st) := q_if_ne hc tgt hd ht (cmZ_r x y) (fun h => kt (by unfold cmZ at h; split at h <;> (try split at h) <;> omega)) (fun h => kf (by unfold cmZ at h; split at h <;> (try split at h) <;> omega))
theorem q_cm_eq (hc : Cx p s m args c cc nL Ts own D K Hp) {x y : Int} {off : Int} (tgt : Nat) (hd : decode cc pc = .ok (.ifCond .eq off, 3)) (ht : (pc : Int) + off = (tgt : Int)) (kt : x = y → V p l e R s m args below meth c nL cells slots Q Hp ws lv (tgt) (st)) (kf : ¬ (x = y) → V p l e R s m args below meth c nL cells slots Q Hp ws lv (pc + 3) (st)) : V p l e R s m args below meth c nL cells slots Q Hp ws lv (pc) (.int (iZ (cmZ x y)) :: st) := q_if_eq hc tgt hd ht (cmZ_r x y) (fun h => kt (by unfold cmZ at h; split at h <;> (try split at h) <;> omega)) (fun h => kf (by unfold cmZ at h; split at h <;> (try split at h) <;> omega))
theorem q_cm_lt (hc : Cx p s m args c cc nL Ts own D K Hp) {x y : Int} {off : Int} (tgt : Nat) (hd : decode cc pc = .ok (.ifCond .lt off, 3)) (ht : (pc : Int) + off = (tgt : Int)) (kt : x < y → V p l e R s m args below meth c nL cells slots Q Hp ws lv (tgt) (st)) (kf : ¬ (x < y) → V p l e R s m args below meth c nL cells slots Q Hp ws lv (pc + 3) (st)) : V p l e R s m args below meth c nL cells slots Q Hp ws lv (pc) (.int (iZ (cmZ x y)) :: st) := q_if_lt hc tgt hd ht (cmZ_r x y) (fun h => kt (by unfold cmZ at h; split at h <;> (try split at h) <;> omega)) (fun h => kf (by unfold cmZ at h; split at h <;> (try split at h) <;> omega))
theorem q_cm_le (hc : Cx p s m args c cc nL Ts own D K Hp) {x y : Int} {off : Int} (tgt : Nat) (hd : decode cc pc = .ok (.ifCond .le off, 3)) (ht : (pc : Int) + off = (tgt : Int)) (kt : x ≤ y → V p l e R s m args below meth c nL cells slots Q Hp ws lv (tgt) (st)) (kf : ¬ (x ≤ y) → V p l e R s m args below meth c nL cells slots Q Hp ws lv (pc + 3) (st)) : V p l e R s m args below meth c nL cells slots Q Hp ws lv (pc) (.int (iZ (cmZ x y)) :: st) := q_if_le hc tgt hd ht (cmZ_r x y) (fun h => kt (by unfold cmZ at h; split at h <;> (try split at h) <;> omega)) (fun h => kf (by unfold cmZ at h; split at h <;> (try split at h) <;> omega))
theorem q_cm_gt (hc : Cx p s m args c cc nL Ts own D K Hp) {x y : Int} {off : Int} (tgt : Nat) (hd : decode cc pc = .ok (.ifCond .gt off, 3)) (ht : (pc : Int) + off = (tgt : Int)) (kt : y < x → V p l e R s m args below meth c nL cells slots Q Hp ws lv (tgt) (st)) (kf : ¬ (y < x) → V p l e R s m args below meth c nL cells slots Q Hp ws lv (pc + 3) (st)) : V p l e R s m args below meth c nL cells slots Q Hp ws lv (pc) (.int (iZ (cmZ x y)) :: st) := q_if_gt hc tgt hd ht (cmZ_r x y) (fun h => kt (by unfold cmZ at h; split at h <;> (try split at h) <;> omega)) (fun h => kf (by unfold cmZ at h; split at h <;> (try split at h) <;> omega))
theorem q_laldN (hc : Cx p s m args c cc nL Ts own D K Hp) {n j : Nat} {f : Nat → Nat} {z : Int} {a : Nat} (q0 : Nat) (ha : ws[q0]? = some (a, jN K n f)) (hz : z = (j : Int)) (hj : j < n) (hn : n < 2147483648) (hd : decode cc pc = .ok (.laload, 1)) (k : V p l e R s m args below meth c nL cells slots Q Hp ws lv (pc + 1) (.long (jZ ((f j : Nat) : Int)) :: st)) : V p l e R s m args below meth c nL cells slots Q Hp ws lv (pc) (.int (iZ z) :: .ref a :: st) := q_lald (f := fun k => ((f k : Nat) : Int)) hc q0 ha hz hj hn hd k
theorem q_lastN (hc : Cx p s m args c cc nL Ts own D K (hpM D A s.heap)) {n j : Nat} {f : Nat → Nat} {x : Nat} {z : Int} {a : Nat} (q0 : Nat) (ha : ws[q0]? = some (a, jN K n f)) (hz : z = (j : Int)) (hj : j < n) (hn : n < 2147483648) (hd : decode cc pc = .ok (.lastore, 1)) (k : ∀ ws' : va_W, ws'[q0]? = some (a, jN K n (va_up f j x)) → (∀ i, i ≠ q0 → ws'[i]? = ws[i]?) → V p l e R s m args below meth c nL cells slots Q (hpM D A s.heap) ws' lv (pc + 1) (st)) : V p l e R s m args below meth c nL cells slots Q (hpM D A s.heap) ws lv (pc) (.long (jZ ((x : Nat) : Int)) :: .int (iZ z) :: .ref a :: st) := q_last (f := fun k => ((f k : Nat) : Int)) hc q0 ha hz hj hn hd (fun ws' h1 h2 => k ws' (by
  rw [h1]
  have e9 : va_up (fun k => ((f k : Nat) : Int)) j ((x : Nat) : Int) = fun k => ((va_up f j x k : Nat) : Int) := by
    funext k
    unfold va_up
    split <;> rfl
  show some (a, jA K n _) = some (a, jA K n (fun k => ((va_up f j x k : Nat) : Int)))
  rw [e9]) h2)
theorem q_norm_jN (hc : Cx p s m args c cc nL Ts own D K (hpM D A s.heap)) {n : Nat} {f g : Nat → Nat} {a : Nat} (q0 : Nat) (ha : ws[q0]? = some (a, jN K n f)) (hfg : ∀ k, k < n → f k = g k) (k : ∀ ws' : va_W, ws'[q0]? = some (a, jN K n g) → (∀ i, i ≠ q0 → ws'[i]? = ws[i]?) → V p l e R s m args below meth c nL cells slots Q (hpM D A s.heap) ws' lv (pc) (st)) : V p l e R s m args below meth c nL cells slots Q (hpM D A s.heap) ws lv (pc) (st) := q_norm_jA (f := fun k => ((f k : Nat) : Int)) (g := fun k => ((g k : Nat) : Int)) hc q0 ha (fun k hk => by show ((f k : Nat) : Int) = ((g k : Nat) : Int); rw [hfg k hk]) k
end QL
