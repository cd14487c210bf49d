set_option maxRecDepth 100000 in
set_option maxHeartbeats 8000000 in
theorem c_L_capacity (l : Launch) (hl : l.stackTraces = false) (D : va_G) (K : Nat → ClassId) (ws : va_W) (ad : Nat → Nat) (nc rc : Nat) (x y : Int) (d : Bool) (w h n : Nat) (c0 : Int) (cap : Nat → Nat) (fo : Nat → Int) (h0 : ws[0]? = some (ad 0, xO ad nc rc)) (h1 : ws[1]? = some (ad 1, gO ad w h n)) (h2 : ws[2]? = some (ad 2, iN K (2 * n) cap)) (h78 : ws[78]? = some (ad 78, jA K 1 fo)) (hx : -2147483648 ≤ x ∧ x < 2147483648) (hy : -2147483648 ≤ y ∧ y < 2147483648) (hc0 : -2147483648 ≤ c0 ∧ c0 < 2147483648) (hn : n ≤ 64) (hw : 0 < w ∧ w ≤ 8 ∧ h ≤ 8) (hxy : ∀ x y, x < w → y < h → x + w * y < n) (hcap : ∀ k, k < 2 * n → cap k ≤ 20) : MLi l yL_capacity wsL_capacity ({ frames := 8, cells := 2, slots := 12, locals := 139 }) D K ws [.ref (ad 0), .int (iZ x), .int (iZ y), .int (iZ (bZ d)), .int (iZ c0), .ref (ad 78)] 2 (fun r u => ((r = iZ ((0 : Nat) : Int)) ∧ (hB w h x y d = true) ∧ (0 ≤ c0 ∧ c0 ≤ 20) ∧ (u[2]? = some (ad 2, iN K (2 * n) (va_up cap (bIx w x y d) c0.toNat))) ∧ (u[78]? = some (ad 78, jA K 1 (va_up fo 0 ((iZ ((cap (bIx w x y d) : Nat) : Int)).toInt)))) ∧ (Fr (fun j => j = 2 ∨ j = 78) ws u)) ∨ ((r = iZ ((1 : Nat) : Int)) ∧ (hB w h x y d = false) ∧ (ws = u)) ∨ ((r = iZ ((2 : Nat) : Int)) ∧ (hB w h x y d = true) ∧ (¬ (0 ≤ c0 ∧ c0 ≤ 20)) ∧ (ws = u))) := by
  refine q_entL RL [(0, .ref (ad 0)), (1, .int (iZ x)), (2, .int (iZ y)), (3, .int (iZ (bZ d))), (4, .int (iZ c0)), (5, .ref (ad 78))] (by decide) rfl rfl (Nat.le_of_ble_eq_true rfl) rfl ?_
  intro p e s m args below meth c hc hXE htab hr hlk
  have fr0 : Fr (fun j => j = 2 ∨ j = 78) ws ws := Fr.rfl
  refine q_aload hc 5 dL_capacity_0 rfl ?_
  refine q_iconstN hc 0 dL_capacity_2 rfl ?_
  refine q_aload_n hc 0 dL_capacity_3 rfl ?_
  refine q_iload_n hc 1 dL_capacity_4 rfl ?_
  refine q_iload_n hc 2 dL_capacity_5 rfl ?_
  refine q_iload_n hc 3 dL_capacity_6 rfl ?_
  refine q_iload hc 4 dL_capacity_7 rfl ?_
  refine q_callCi (As := [.int (iZ x), .int (iZ y), .int (iZ (bZ d)), .int (iZ c0)]) (rest := [.int (iZ ((0 : Nat) : Int)), .ref (ad 78)]) hc hXE (c_X4_capacity l hl D K ws ad nc rc x y d w h n c0 cap h0 h1 h2 hx hy hc0 hn hw hxy hcap) (cwV 4 hc.1.2.2.2.2 gL_capacity_X4_capacity rfl rfl rfl (by decide +kernel) ⟨Nat.le_of_ble_eq_true rfl, Nat.le_of_ble_eq_true rfl⟩) 0 h0 rfl rfl rfl (by simp [Value.category]) dL_capacity_9 ⟨Nat.le_of_ble_eq_true rfl, Nat.le_of_ble_eq_true rfl⟩ ?_ (fun r u hp' => ?_)
  · intro E hx9
    rcases hx9 with ⟨rfl, x0⟩ | ⟨rfl, x0, x1⟩
    · refine ct1 htab  rfl (by decide) (hc.1.2.2.2.2 (.classLink RL 13 "java/lang/IndexOutOfBoundsException") (by decide +kernel)) (va_Nw.use (exB_on _ (show Cond.castable "java/lang/IndexOutOfBoundsException" "java/lang/IndexOutOfBoundsException" ∈ exB by decide +kernel)) (hXE.2.2.1 _ (show Cond.castable "java/lang/IndexOutOfBoundsException" "java/lang/IndexOutOfBoundsException" ∈ exB by decide +kernel))) (fun q => ?_)
      try dsimp only
      refine q_astore hc [(6, .ref q), (0, .ref (ad 0)), (1, .int (iZ x)), (2, .int (iZ y)), (3, .int (iZ (bZ d))), (4, .int (iZ c0)), (5, .ref (ad 78))] dL_capacity_17 (by decide) rfl ?_
      refine q_iconstN hc 1 dL_capacity_19 rfl ?_
      refine V.widen (k := 2) (n := 12) (by decide) (by decide) ?_
      exact q_iretM (z := ((1 : Nat) : Int)) hc (Or.inr (Or.inl ⟨rfl, x0, rfl⟩)) hr hlk dL_capacity_20
    · refine ct2 htab (by decide) (hc.1.2.2.2.2 (.classLink RL 13 "java/lang/IndexOutOfBoundsException") (by decide +kernel)) (hXE.2.2.2.2 ("java/lang/IllegalArgumentException", "java/lang/IndexOutOfBoundsException") (by decide +kernel)) rfl (by decide) (hc.1.2.2.2.2 (.classLink RL 15 "java/lang/IllegalArgumentException") (by decide +kernel)) (va_Nw.use (exB_on _ (show Cond.castable "java/lang/IllegalArgumentException" "java/lang/IllegalArgumentException" ∈ exB by decide +kernel)) (hXE.2.2.1 _ (show Cond.castable "java/lang/IllegalArgumentException" "java/lang/IllegalArgumentException" ∈ exB by decide +kernel))) (fun q => ?_)
      try dsimp only
      refine q_astore hc [(6, .ref q), (0, .ref (ad 0)), (1, .int (iZ x)), (2, .int (iZ y)), (3, .int (iZ (bZ d))), (4, .int (iZ c0)), (5, .ref (ad 78))] dL_capacity_21 (by decide) rfl ?_
      refine q_iconstN hc 2 dL_capacity_23 rfl ?_
      refine V.widen (k := 2) (n := 12) (by decide) (by decide) ?_
      exact q_iretM (z := ((2 : Nat) : Int)) hc (Or.inr (Or.inr (⟨rfl, x0, x1, rfl⟩))) hr hlk dL_capacity_24
  · obtain ⟨hr9, hx1, hx2, hq3, fr4⟩ := hp'; subst hr9
    have hq5 := (fr4.at 0 (by omega)).trans h0
    have hq6 := (fr4.at 1 (by omega)).trans h1
    have hq7 := (fr4.at 78 (by omega)).trans h78
    refine q_i2lw hc dL_capacity_12 ?_
    refine q_last (j := 0) (x := (iZ ((cap (bIx w x y d) : Nat) : Int)).toInt) hc 78 hq7 rfl (by omega) (by omega) dL_capacity_13 (fun u8 hn' hf' => ?_)
    have hq9 : u8[78]? = some (ad 78, jA K 1 (va_up fo 0 ((iZ ((cap (bIx w x y d) : Nat) : Int)).toInt))) := hn'
    have hq10 := (hf' 0 (by omega)).trans hq5
    have hq11 := (hf' 1 (by omega)).trans hq6
    have hq12 := (hf' 2 (by omega)).trans hq3
    have fr13 := Fr.one hf'
    refine q_goto hc 25 dL_capacity_14 (by decide) ?_
    refine q_iconstN hc 0 dL_capacity_25 rfl ?_
    refine V.widen (k := 2) (n := 12) (by decide) (by decide) ?_
    exact q_iretM (z := ((0 : Nat) : Int)) hc (Or.inl ⟨rfl, hx1, hx2, hq12, hq9, ((fr0.trans fr4 (fun _ _ => by omega)).trans fr13 (fun _ _ => by omega))⟩) hr hlk dL_capacity_26

set_option maxRecDepth 100000 in
set_option maxHeartbeats 8000000 in
theorem c_L_net (l : Launch) (hl : l.stackTraces = false) (D : va_G) (K : Nat → ClassId) (ws : va_W) (ad : Nat → Nat) (nc rc : Nat) (fo : Nat → Int) (h0 : ws[0]? = some (ad 0, xO ad nc rc)) (h78 : ws[78]? = some (ad 78, jA K 1 fo)) (hnc : nc ≤ 12) : MLi l yL_net wsL_net ({ frames := 7, cells := 1, slots := 6, locals := 110 }) D K ws [.ref (ad 0), .ref (ad 78)] 1 (fun r u => ((r = iZ ((0 : Nat) : Int)) ∧ (nc < 12) ∧ (u[0]? = some (ad 0, xO ad (nc + 1) rc)) ∧ (u[78]? = some (ad 78, jA K 1 (va_up fo 0 ((iZ ((nc : Nat) : Int)).toInt)))) ∧ (Fr (fun j => j = 0 ∨ j = 78) ws u)) ∨ ((r = iZ ((1 : Nat) : Int)) ∧ (12 ≤ nc) ∧ (ws = u))) := by
  refine q_entL RL [(0, .ref (ad 0)), (1, .ref (ad 78))] (by decide) rfl rfl (Nat.le_of_ble_eq_true rfl) rfl ?_
  intro p e s m args below meth c hc hXE htab hr hlk
  have fr0 : Fr (fun j => j = 0 ∨ j = 78) ws ws := Fr.rfl
  refine q_aload_n hc 1 dL_net_0 rfl ?_
  refine q_iconstN hc 0 dL_net_1 rfl ?_
  refine q_aload_n hc 0 dL_net_2 rfl ?_
  refine q_callCi (As := []) (rest := [.int (iZ ((0 : Nat) : Int)), .ref (ad 78)]) hc hXE (c_X4_net l hl D K ws ad nc rc h0 hnc) (cwV 0 hc.1.2.2.2.2 gL_net_X4_net rfl rfl rfl (by decide +kernel) ⟨Nat.le_of_ble_eq_true rfl, Nat.le_of_ble_eq_true rfl⟩) 0 h0 rfl rfl rfl (by simp [Value.category]) dL_net_3 ⟨Nat.le_of_ble_eq_true rfl, Nat.le_of_ble_eq_true rfl⟩ ?_ (fun r u hp' => ?_)
  · intro E hx9
    rcases hx9 with ⟨rfl, x0⟩
    refine ct1 htab  rfl (by decide) (hc.1.2.2.2.2 (.classLink RL 21 "java/lang/IllegalStateException") (by decide +kernel)) (va_Nw.use (exB_on _ (show Cond.castable "java/lang/IllegalStateException" "java/lang/IllegalStateException" ∈ exB by decide +kernel)) (hXE.2.2.1 _ (show Cond.castable "java/lang/IllegalStateException" "java/lang/IllegalStateException" ∈ exB by decide +kernel))) (fun q => ?_)
    try dsimp only
    refine q_astore_n hc [(2, .ref q), (0, .ref (ad 0)), (1, .ref (ad 78))] dL_net_11 rfl (by decide) rfl ?_
    refine q_iconstN hc 1 dL_net_12 rfl ?_
    refine V.widen (k := 1) (n := 6) (by decide) (by decide) ?_
    exact q_iretM (z := ((1 : Nat) : Int)) hc (Or.inr (⟨rfl, x0, rfl⟩)) hr hlk dL_net_13
  · obtain ⟨hr9, hx1, hq2, fr3⟩ := hp'; subst hr9
    have hq4 := (fr3.at 78 (by omega)).trans h78
    refine q_i2lw hc dL_net_6 ?_
    refine q_last (j := 0) (x := (iZ ((nc : Nat) : Int)).toInt) hc 78 hq4 rfl (by omega) (by omega) dL_net_7 (fun u5 hn' hf' => ?_)
    have hq6 : u5[78]? = some (ad 78, jA K 1 (va_up fo 0 ((iZ ((nc : Nat) : Int)).toInt))) := hn'
    have hq7 := (hf' 0 (by omega)).trans hq2
    have fr8 := Fr.one hf'
    refine q_goto hc 14 dL_net_8 (by decide) ?_
    refine q_iconstN hc 0 dL_net_14 rfl ?_
    refine V.widen (k := 1) (n := 6) (by decide) (by decide) ?_
    exact q_iretM (z := ((0 : Nat) : Int)) hc (Or.inl ⟨rfl, hx1, hq7, hq6, ((fr0.trans fr3 (fun _ _ => by omega)).trans fr8 (fun _ _ => by omega))⟩) hr hlk dL_net_15

set_option maxRecDepth 100000 in
set_option maxHeartbeats 8000000 in
theorem c_L_pin (l : Launch) (hl : l.stackTraces = false) (D : va_G) (K : Nat → ClassId) (ws : va_W) (ad : Nat → Nat) (nc rc : Nat) (num : Int) (x y : Int) (w h n : Nat) (us : Nat → Nat) (pn : Nat → Nat) (rl : Nat → Int) (pi : Nat → Nat → Nat) (ro : Nat → Nat → Bool) (fo : Nat → Int) (h0 : ws[0]? = some (ad 0, xO ad nc rc)) (h1 : ws[1]? = some (ad 1, gO ad w h n)) (h3 : ws[3]? = some (ad 3, iN K (2 * n) us)) (h29 : ws[29]? = some (ad 29, nA K 12 (nF ad))) (hN : ∀ s, s < 12 → ws[30 + 3 * s]? = some (ad (30 + 3 * s), nO ad s (pn s) (rl s))) (hP : ∀ s, s < 12 → ws[31 + 3 * s]? = some (ad (31 + 3 * s), iN K 5 (pi s))) (hO : ∀ s, s < 12 → ws[32 + 3 * s]? = some (ad (32 + 3 * s), zA K (2 * n) (ro s))) (h78 : ws[78]? = some (ad 78, jA K 1 fo)) (hnc : nc ≤ 12) (hnum : -2147483648 ≤ num ∧ num < 2147483648) (hx : -2147483648 ≤ x ∧ x < 2147483648) (hy : -2147483648 ≤ y ∧ y < 2147483648) (hn : n ≤ 64) (hw : 0 < w ∧ w ≤ 8 ∧ h ≤ 8) (hxy : ∀ x y, x < w → y < h → x + w * y < n) (hpn : ∀ j, j < nc → pn j ≤ 5) (hpif : ∀ j k, j < nc → pi j k < 64) (hI : Inv n nc (us, ro, rl)) : MLi l yL_pin wsL_pin ({ frames := 8, cells := 2, slots := 12, locals := 136 }) D K ws [.ref (ad 0), .int (iZ num), .int (iZ x), .int (iZ y), .ref (ad 78)] 2 (fun r u => ((r = iZ ((0 : Nat) : Int)) ∧ (0 ≤ num ∧ num < (nc : Int)) ∧ ((0 ≤ x ∧ x < (w : Int) ∧ 0 ≤ y ∧ y < (h : Int))) ∧ (anyB (fun k => decide (pi num.toNat k = x.toNat + w * y.toNat)) (pn num.toNat) = false) ∧ (pn num.toNat < 5) ∧ (u[3]? = some (ad 3, iN K (2 * n) (sbU us (ro num.toNat)))) ∧ (∀ s, s < 12 → u[30 + 3 * s]? = some (ad (30 + 3 * s), nO ad s ((va_up pn num.toNat (pn num.toNat + 1)) s) ((va_up rl num.toNat (-1)) s))) ∧ (∀ s, s < 12 → u[31 + 3 * s]? = some (ad (31 + 3 * s), iN K 5 ((va_up pi num.toNat (va_up (pi num.toNat) (pn num.toNat) (x.toNat + w * y.toNat))) s))) ∧ (∀ s, s < 12 → u[32 + 3 * s]? = some (ad (32 + 3 * s), zA K (2 * n) ((va_up ro num.toNat (fun _ => false)) s))) ∧ (u[78]? = some (ad 78, jA K 1 (va_up fo 0 ((iZ ((pn num.toNat + 1 : Nat) : Int)).toInt)))) ∧ (Fr (fun j => j = 3 ∨ (30 ≤ j ∧ j < 66 ∧ (j - 30) % 3 = 0) ∨ (31 ≤ j ∧ j < 67 ∧ (j - 31) % 3 = 0) ∨ (32 ≤ j ∧ j < 68 ∧ (j - 32) % 3 = 0) ∨ j = 78) ws u)) ∨ ((r = iZ ((1 : Nat) : Int)) ∧ (¬ (0 ≤ num ∧ num < (nc : Int))) ∧ (ws = u)) ∨ ((r = iZ ((2 : Nat) : Int)) ∧ ((0 ≤ num ∧ num < (nc : Int))) ∧ (¬ (0 ≤ x ∧ x < (w : Int) ∧ 0 ≤ y ∧ y < (h : Int))) ∧ (ws = u)) ∨ ((r = iZ ((2 : Nat) : Int)) ∧ ((0 ≤ num ∧ num < (nc : Int))) ∧ ((0 ≤ x ∧ x < (w : Int) ∧ 0 ≤ y ∧ y < (h : Int))) ∧ (anyB (fun k => decide (pi num.toNat k = x.toNat + w * y.toNat)) (pn num.toNat) = true) ∧ (ws = u)) ∨ ((r = iZ ((3 : Nat) : Int)) ∧ ((0 ≤ num ∧ num < (nc : Int))) ∧ ((0 ≤ x ∧ x < (w : Int) ∧ 0 ≤ y ∧ y < (h : Int))) ∧ (anyB (fun k => decide (pi num.toNat k = x.toNat + w * y.toNat)) (pn num.toNat) = false) ∧ (¬ pn num.toNat < 5) ∧ (ws = u))) := by
  refine q_entL RL [(0, .ref (ad 0)), (1, .int (iZ num)), (2, .int (iZ x)), (3, .int (iZ y)), (4, .ref (ad 78))] (by decide) rfl rfl (Nat.le_of_ble_eq_true rfl) rfl ?_
  intro p e s m args below meth c hc hXE htab hr hlk
  have fr0 : Fr (fun j => j = 3 ∨ (30 ≤ j ∧ j < 66 ∧ (j - 30) % 3 = 0) ∨ (31 ≤ j ∧ j < 67 ∧ (j - 31) % 3 = 0) ∨ (32 ≤ j ∧ j < 68 ∧ (j - 32) % 3 = 0) ∨ j = 78) ws ws := Fr.rfl
  refine q_aload hc 4 dL_pin_0 rfl ?_
  refine q_iconstN hc 0 dL_pin_2 rfl ?_
  refine q_aload_n hc 0 dL_pin_3 rfl ?_
  refine q_iload_n hc 1 dL_pin_4 rfl ?_
  refine q_iload_n hc 2 dL_pin_5 rfl ?_
  refine q_iload_n hc 3 dL_pin_6 rfl ?_
  refine q_callCi (As := [.int (iZ num), .int (iZ x), .int (iZ y)]) (rest := [.int (iZ ((0 : Nat) : Int)), .ref (ad 78)]) hc hXE (c_X4_pin l hl D K ws ad nc rc num x y w h n us pn rl pi ro h0 h1 h3 h29 hN hP hO hnc hnum hx hy hn hw hxy hpn hpif hI) (cwV 3 hc.1.2.2.2.2 gL_pin_X4_pin rfl rfl rfl (by decide +kernel) ⟨Nat.le_of_ble_eq_true rfl, Nat.le_of_ble_eq_true rfl⟩) 0 h0 rfl rfl rfl (by simp [Value.category]) dL_pin_7 ⟨Nat.le_of_ble_eq_true rfl, Nat.le_of_ble_eq_true rfl⟩ ?_ (fun r u hp' => ?_)
  · intro E hx9
    rcases hx9 with ⟨rfl, x0⟩ | ⟨rfl, x0, x1⟩ | ⟨rfl, x0, x1, x2⟩ | ⟨rfl, x0, x1, x2, x3⟩
    · refine ct1 htab  rfl (by decide) (hc.1.2.2.2.2 (.classLink RL 13 "java/lang/IndexOutOfBoundsException") (by decide +kernel)) (va_Nw.use (exB_on _ (show Cond.castable "java/lang/IndexOutOfBoundsException" "java/lang/IndexOutOfBoundsException" ∈ exB by decide +kernel)) (hXE.2.2.1 _ (show Cond.castable "java/lang/IndexOutOfBoundsException" "java/lang/IndexOutOfBoundsException" ∈ exB by decide +kernel))) (fun q => ?_)
      try dsimp only
      refine q_astore hc [(5, .ref q), (0, .ref (ad 0)), (1, .int (iZ num)), (2, .int (iZ x)), (3, .int (iZ y)), (4, .ref (ad 78))] dL_pin_15 (by decide) rfl ?_
      refine q_iconstN hc 1 dL_pin_17 rfl ?_
      refine V.widen (k := 2) (n := 12) (by decide) (by decide) ?_
      exact q_iretM (z := ((1 : Nat) : Int)) hc (Or.inr (Or.inl ⟨rfl, x0, rfl⟩)) hr hlk dL_pin_18
    · refine ct2 htab (by decide) (hc.1.2.2.2.2 (.classLink RL 13 "java/lang/IndexOutOfBoundsException") (by decide +kernel)) (hXE.2.2.2.2 ("java/lang/IllegalArgumentException", "java/lang/IndexOutOfBoundsException") (by decide +kernel)) rfl (by decide) (hc.1.2.2.2.2 (.classLink RL 15 "java/lang/IllegalArgumentException") (by decide +kernel)) (va_Nw.use (exB_on _ (show Cond.castable "java/lang/IllegalArgumentException" "java/lang/IllegalArgumentException" ∈ exB by decide +kernel)) (hXE.2.2.1 _ (show Cond.castable "java/lang/IllegalArgumentException" "java/lang/IllegalArgumentException" ∈ exB by decide +kernel))) (fun q => ?_)
      try dsimp only
      refine q_astore hc [(5, .ref q), (0, .ref (ad 0)), (1, .int (iZ num)), (2, .int (iZ x)), (3, .int (iZ y)), (4, .ref (ad 78))] dL_pin_19 (by decide) rfl ?_
      refine q_iconstN hc 2 dL_pin_21 rfl ?_
      refine V.widen (k := 2) (n := 12) (by decide) (by decide) ?_
      exact q_iretM (z := ((2 : Nat) : Int)) hc (Or.inr (Or.inr (Or.inl ⟨rfl, x0, x1, rfl⟩))) hr hlk dL_pin_22
    · refine ct2 htab (by decide) (hc.1.2.2.2.2 (.classLink RL 13 "java/lang/IndexOutOfBoundsException") (by decide +kernel)) (hXE.2.2.2.2 ("java/lang/IllegalArgumentException", "java/lang/IndexOutOfBoundsException") (by decide +kernel)) rfl (by decide) (hc.1.2.2.2.2 (.classLink RL 15 "java/lang/IllegalArgumentException") (by decide +kernel)) (va_Nw.use (exB_on _ (show Cond.castable "java/lang/IllegalArgumentException" "java/lang/IllegalArgumentException" ∈ exB by decide +kernel)) (hXE.2.2.1 _ (show Cond.castable "java/lang/IllegalArgumentException" "java/lang/IllegalArgumentException" ∈ exB by decide +kernel))) (fun q => ?_)
      try dsimp only
      refine q_astore hc [(5, .ref q), (0, .ref (ad 0)), (1, .int (iZ num)), (2, .int (iZ x)), (3, .int (iZ y)), (4, .ref (ad 78))] dL_pin_19 (by decide) rfl ?_
      refine q_iconstN hc 2 dL_pin_21 rfl ?_
      refine V.widen (k := 2) (n := 12) (by decide) (by decide) ?_
      exact q_iretM (z := ((2 : Nat) : Int)) hc (Or.inr (Or.inr (Or.inr (Or.inl ⟨rfl, x0, x1, x2, rfl⟩)))) hr hlk dL_pin_22
    · refine ct3 htab (by decide) (hc.1.2.2.2.2 (.classLink RL 13 "java/lang/IndexOutOfBoundsException") (by decide +kernel)) (hXE.2.2.2.2 ("java/lang/IllegalStateException", "java/lang/IndexOutOfBoundsException") (by decide +kernel)) (by decide) (hc.1.2.2.2.2 (.classLink RL 15 "java/lang/IllegalArgumentException") (by decide +kernel)) (hXE.2.2.2.2 ("java/lang/IllegalStateException", "java/lang/IllegalArgumentException") (by decide +kernel)) rfl (by decide) (hc.1.2.2.2.2 (.classLink RL 21 "java/lang/IllegalStateException") (by decide +kernel)) (va_Nw.use (exB_on _ (show Cond.castable "java/lang/IllegalStateException" "java/lang/IllegalStateException" ∈ exB by decide +kernel)) (hXE.2.2.1 _ (show Cond.castable "java/lang/IllegalStateException" "java/lang/IllegalStateException" ∈ exB by decide +kernel))) (fun q => ?_)
      try dsimp only
      refine q_astore hc [(5, .ref q), (0, .ref (ad 0)), (1, .int (iZ num)), (2, .int (iZ x)), (3, .int (iZ y)), (4, .ref (ad 78))] dL_pin_23 (by decide) rfl ?_
      refine q_iconstN hc 3 dL_pin_25 rfl ?_
      refine V.widen (k := 2) (n := 12) (by decide) (by decide) ?_
      exact q_iretM (z := ((3 : Nat) : Int)) hc (Or.inr (Or.inr (Or.inr (Or.inr (⟨rfl, x0, x1, x2, x3, rfl⟩))))) hr hlk dL_pin_26
  · obtain ⟨hr9, hx1, hx2, hx3, hx4, hq5, hq6, hq7, hq8, fr9⟩ := hp'; subst hr9
    have hq10 := (fr9.at 0 (by omega)).trans h0
    have hq11 := (fr9.at 1 (by omega)).trans h1
    have hq12 := (fr9.at 29 (by omega)).trans h29
    have hq13 := (fr9.at 78 (by omega)).trans h78
    refine q_i2lw hc dL_pin_10 ?_
    refine q_last (j := 0) (x := (iZ ((pn num.toNat + 1 : Nat) : Int)).toInt) hc 78 hq13 rfl (by omega) (by omega) dL_pin_11 (fun u14 hn' hf' => ?_)
    have hq15 : u14[78]? = some (ad 78, jA K 1 (va_up fo 0 ((iZ ((pn num.toNat + 1 : Nat) : Int)).toInt))) := hn'
    have hq16 := (hf' 0 (by omega)).trans hq10
    have hq17 := (hf' 1 (by omega)).trans hq11
    have hq18 := (hf' 3 (by omega)).trans hq5
    have hq19 := (hf' 29 (by omega)).trans hq12
    have hq20 : ∀ s, s < 12 → u14[30 + 3 * s]? = some (ad (30 + 3 * s), nO ad s ((va_up pn num.toNat (pn num.toNat + 1)) s) ((va_up rl num.toNat (-1)) s)) := fun s hs => (hf' (30 + 3 * s) (by omega)).trans (hq6 s hs)
    have hq21 : ∀ s, s < 12 → u14[31 + 3 * s]? = some (ad (31 + 3 * s), iN K 5 ((va_up pi num.toNat (va_up (pi num.toNat) (pn num.toNat) (x.toNat + w * y.toNat))) s)) := fun s hs => (hf' (31 + 3 * s) (by omega)).trans (hq7 s hs)
    have hq22 : ∀ s, s < 12 → u14[32 + 3 * s]? = some (ad (32 + 3 * s), zA K (2 * n) ((va_up ro num.toNat (fun _ => false)) s)) := fun s hs => (hf' (32 + 3 * s) (by omega)).trans (hq8 s hs)
    have fr23 := Fr.one hf'
    refine q_goto hc 27 dL_pin_12 (by decide) ?_
    refine q_iconstN hc 0 dL_pin_27 rfl ?_
    refine V.widen (k := 2) (n := 12) (by decide) (by decide) ?_
    exact q_iretM (z := ((0 : Nat) : Int)) hc (Or.inl ⟨rfl, hx1, hx2, hx3, hx4, hq18, hq20, hq21, hq22, hq15, ((fr0.trans fr9 (fun _ _ => by omega)).trans fr23 (fun _ _ => by omega))⟩) hr hlk dL_pin_28

set_option maxRecDepth 100000 in
set_option maxHeartbeats 8000000 in
theorem c_L_lead (l : Launch) (hl : l.stackTraces = false) (D : va_G) (K : Nat → ClassId) (ws : va_W) (ad : Nat → Nat) (num : Int) (nc rc : Nat) (w h n : Nat) (cap us hi co di : Nat → Nat) (tr : Nat → Bool) (nb bt : Nat → Option Nat) (pn : Nat → Nat) (rl : Nat → Int) (pi : Nat → Nat → Nat) (ro : Nat → Nat → Bool) (fo : Nat → Int) (h0 : ws[0]? = some (ad 0, xO ad nc rc)) (h1 : ws[1]? = some (ad 1, gO ad w h n)) (h2 : ws[2]? = some (ad 2, iN K (2 * n) cap)) (h3 : ws[3]? = some (ad 3, iN K (2 * n) us)) (h4 : ws[4]? = some (ad 4, iN K (2 * n) hi)) (h5 : ws[5]? = some (ad 5, iA K (4 * n) (fun k => oZ (nb k)))) (h6 : ws[6]? = some (ad 6, iA K (4 * n) (fun k => oZ (bt k)))) (h7 : ws[7]? = some (ad 7, lO ad)) (h8 : ws[8]? = some (ad 8, iN K (2 * n) co)) (h9 : ws[9]? = some (ad 9, iN K n di)) (h10 : ws[10]? = some (ad 10, zA K n tr)) (h29 : ws[29]? = some (ad 29, nA K 12 (nF ad))) (hN : ∀ s, s < 12 → ws[30 + 3 * s]? = some (ad (30 + 3 * s), nO ad s (pn s) (rl s))) (hP : ∀ s, s < 12 → ws[31 + 3 * s]? = some (ad (31 + 3 * s), iN K 5 (pi s))) (hO : ∀ s, s < 12 → ws[32 + 3 * s]? = some (ad (32 + 3 * s), zA K (2 * n) (ro s))) (h78 : ws[78]? = some (ad 78, jA K 1 fo)) (hn : n ≤ 64) (hnc : nc ≤ 12) (hNB : NB n nb bt) (hcap : ∀ k, k < 2 * n → cap k ≤ 20) (hhi : ∀ k, k < 2 * n → hi k ≤ 5120) (hpn : ∀ j, j < nc → pn j ≤ 5) (hpin : ∀ j k, j < nc → k < pn j → pi j k < n) (hnum : -2147483648 ≤ num ∧ num < 2147483648) (hI : Inv n nc (us, ro, rl)) : MLi l yL_lead wsL_lead ({ frames := 8, cells := 2, slots := 12, locals := 137 }) D K ws [.ref (ad 0), .int (iZ num), .ref (ad 78)] 2 (fun r u => (∃ (cv : Nat → Nat) (dv : Nat → Nat) (tv : Nat → Bool), (r = iZ ((0 : Nat) : Int)) ∧ (0 ≤ num ∧ num < (nc : Int)) ∧ (2 ≤ pn num.toNat) ∧ (u[3]? = some (ad 3, iN K (2 * n) ((ldS nb bt n cap hi pn pi num.toNat (us, ro, rl)).1))) ∧ (u[8]? = some (ad 8, iN K (2 * n) cv)) ∧ (u[9]? = some (ad 9, iN K n dv)) ∧ (u[10]? = some (ad 10, zA K n tv)) ∧ (∀ s, s < 12 → u[30 + 3 * s]? = some (ad (30 + 3 * s), nO ad s (pn s) (((ldS nb bt n cap hi pn pi num.toNat (us, ro, rl)).2.2) s))) ∧ (∀ s, s < 12 → u[32 + 3 * s]? = some (ad (32 + 3 * s), zA K (2 * n) (((ldS nb bt n cap hi pn pi num.toNat (us, ro, rl)).2.1) s))) ∧ (u[78]? = some (ad 78, jA K 1 (va_up fo 0 (((sm (fun k => if rtN nb bt n cap hi (pn num.toNat) (pi num.toNat) us (ro num.toNat) k = true then coF cap (sbU us (ro num.toNat)) hi k else 0) (2 * n) : Nat) : Int))))) ∧ (Fr (fun j => j = 3 ∨ j = 8 ∨ j = 9 ∨ j = 10 ∨ (30 ≤ j ∧ j < 66 ∧ (j - 30) % 3 = 0) ∨ (32 ≤ j ∧ j < 68 ∧ (j - 32) % 3 = 0) ∨ j = 78) ws u)) ∨ ((r = iZ ((1 : Nat) : Int)) ∧ (¬ (0 ≤ num ∧ num < (nc : Int))) ∧ (ws = u)) ∨ ((r = iZ ((2 : Nat) : Int)) ∧ ((0 ≤ num ∧ num < (nc : Int))) ∧ (¬ 2 ≤ pn num.toNat) ∧ (ws = u))) := by
  refine q_entL RL [(0, .ref (ad 0)), (1, .int (iZ num)), (2, .ref (ad 78))] (by decide) rfl rfl (Nat.le_of_ble_eq_true rfl) rfl ?_
  intro p e s m args below meth c hc hXE htab hr hlk
  have fr0 : Fr (fun j => j = 3 ∨ j = 8 ∨ j = 9 ∨ j = 10 ∨ (30 ≤ j ∧ j < 66 ∧ (j - 30) % 3 = 0) ∨ (32 ≤ j ∧ j < 68 ∧ (j - 32) % 3 = 0) ∨ j = 78) ws ws := Fr.rfl
  refine q_aload_n hc 2 dL_lead_0 rfl ?_
  refine q_iconstN hc 0 dL_lead_1 rfl ?_
  refine q_aload_n hc 0 dL_lead_2 rfl ?_
  refine q_iload_n hc 1 dL_lead_3 rfl ?_
  refine q_callCl (As := [.int (iZ num)]) (rest := [.int (iZ ((0 : Nat) : Int)), .ref (ad 78)]) hc hXE (c_X4_lead l hl D K ws ad num nc rc w h n cap us hi co di tr nb bt pn rl pi ro h0 h1 h2 h3 h4 h5 h6 h7 h8 h9 h10 h29 hN hP hO hn hnc hNB hcap hhi hpn hpin hnum hI) (cwV 1 hc.1.2.2.2.2 gL_lead_X4_lead rfl rfl rfl (by decide +kernel) ⟨Nat.le_of_ble_eq_true rfl, Nat.le_of_ble_eq_true rfl⟩) 0 h0 rfl rfl rfl (by simp [Value.category]) dL_lead_4 ⟨Nat.le_of_ble_eq_true rfl, Nat.le_of_ble_eq_true rfl⟩ ?_ (fun r u hp' => ?_)
  · intro E hx9
    rcases hx9 with ⟨rfl, x0⟩ | ⟨rfl, x0, x1⟩
    · refine ct1 htab  rfl (by decide) (hc.1.2.2.2.2 (.classLink RL 13 "java/lang/IndexOutOfBoundsException") (by decide +kernel)) (va_Nw.use (exB_on _ (show Cond.castable "java/lang/IndexOutOfBoundsException" "java/lang/IndexOutOfBoundsException" ∈ exB by decide +kernel)) (hXE.2.2.1 _ (show Cond.castable "java/lang/IndexOutOfBoundsException" "java/lang/IndexOutOfBoundsException" ∈ exB by decide +kernel))) (fun q => ?_)
      try dsimp only
      refine q_astore_n hc [(3, .ref q), (0, .ref (ad 0)), (1, .int (iZ num)), (2, .ref (ad 78))] dL_lead_11 rfl (by decide) rfl ?_
      refine q_iconstN hc 1 dL_lead_12 rfl ?_
      refine V.widen (k := 2) (n := 12) (by decide) (by decide) ?_
      exact q_iretM (z := ((1 : Nat) : Int)) hc (Or.inr (Or.inl ⟨rfl, x0, rfl⟩)) hr hlk dL_lead_13
    · refine ct2 htab (by decide) (hc.1.2.2.2.2 (.classLink RL 13 "java/lang/IndexOutOfBoundsException") (by decide +kernel)) (hXE.2.2.2.2 ("java/lang/IllegalStateException", "java/lang/IndexOutOfBoundsException") (by decide +kernel)) rfl (by decide) (hc.1.2.2.2.2 (.classLink RL 21 "java/lang/IllegalStateException") (by decide +kernel)) (va_Nw.use (exB_on _ (show Cond.castable "java/lang/IllegalStateException" "java/lang/IllegalStateException" ∈ exB by decide +kernel)) (hXE.2.2.1 _ (show Cond.castable "java/lang/IllegalStateException" "java/lang/IllegalStateException" ∈ exB by decide +kernel))) (fun q => ?_)
      try dsimp only
      refine q_astore_n hc [(3, .ref q), (0, .ref (ad 0)), (1, .int (iZ num)), (2, .ref (ad 78))] dL_lead_14 rfl (by decide) rfl ?_
      refine q_iconstN hc 2 dL_lead_15 rfl ?_
      refine V.widen (k := 2) (n := 12) (by decide) (by decide) ?_
      exact q_iretM (z := ((2 : Nat) : Int)) hc (Or.inr (Or.inr (⟨rfl, x0, x1, rfl⟩))) hr hlk dL_lead_16
  · obtain ⟨x1, x2, x3, hr9, hx4, hx5, hq6, hq7, hq8, hq9, hq10, hq11, fr12⟩ := hp'; subst hr9
    have hq13 := (fr12.at 0 (by omega)).trans h0
    have hq14 := (fr12.at 1 (by omega)).trans h1
    have hq15 := (fr12.at 2 (by omega)).trans h2
    have hq16 := (fr12.at 4 (by omega)).trans h4
    have hq17 := (fr12.at 5 (by omega)).trans h5
    have hq18 := (fr12.at 6 (by omega)).trans h6
    have hq19 := (fr12.at 7 (by omega)).trans h7
    have hq20 := (fr12.at 29 (by omega)).trans h29
    have hq21 := (fr12.at 78 (by omega)).trans h78
    have hq22 : ∀ s, s < 12 → u[31 + 3 * s]? = some (ad (31 + 3 * s), iN K 5 (pi s)) := fun s hs => (fr12.at (31 + 3 * s) (by omega)).trans (hP s hs)
    refine q_last (j := 0) (x := ((sm (fun k => if rtN nb bt n cap hi (pn num.toNat) (pi num.toNat) us (ro num.toNat) k = true then coF cap (sbU us (ro num.toNat)) hi k else 0) (2 * n) : Nat) : Int)) hc 78 hq21 rfl (by omega) (by omega) dL_lead_7 (fun u23 hn' hf' => ?_)
    have hq24 : u23[78]? = some (ad 78, jA K 1 (va_up fo 0 ((sm (fun k => if rtN nb bt n cap hi (pn num.toNat) (pi num.toNat) us (ro num.toNat) k = true then coF cap (sbU us (ro num.toNat)) hi k else 0) (2 * n) : Nat) : Int))) := hn'
    have hq25 := (hf' 0 (by omega)).trans hq13
    have hq26 := (hf' 1 (by omega)).trans hq14
    have hq27 := (hf' 2 (by omega)).trans hq15
    have hq28 := (hf' 3 (by omega)).trans hq6
    have hq29 := (hf' 4 (by omega)).trans hq16
    have hq30 := (hf' 5 (by omega)).trans hq17
    have hq31 := (hf' 6 (by omega)).trans hq18
    have hq32 := (hf' 7 (by omega)).trans hq19
    have hq33 := (hf' 8 (by omega)).trans hq7
    have hq34 := (hf' 9 (by omega)).trans hq8
    have hq35 := (hf' 10 (by omega)).trans hq9
    have hq36 := (hf' 29 (by omega)).trans hq20
    have hq37 : ∀ s, s < 12 → u23[31 + 3 * s]? = some (ad (31 + 3 * s), iN K 5 (pi s)) := fun s hs => (hf' (31 + 3 * s) (by omega)).trans (hq22 s hs)
    have hq38 : ∀ s, s < 12 → u23[30 + 3 * s]? = some (ad (30 + 3 * s), nO ad s (pn s) (((ldS nb bt n cap hi pn pi num.toNat (us, ro, rl)).2.2) s)) := fun s hs => (hf' (30 + 3 * s) (by omega)).trans (hq10 s hs)
    have hq39 : ∀ s, s < 12 → u23[32 + 3 * s]? = some (ad (32 + 3 * s), zA K (2 * n) (((ldS nb bt n cap hi pn pi num.toNat (us, ro, rl)).2.1) s)) := fun s hs => (hf' (32 + 3 * s) (by omega)).trans (hq11 s hs)
    have fr40 := Fr.one hf'
    refine q_goto hc 17 dL_lead_8 (by decide) ?_
    refine q_iconstN hc 0 dL_lead_17 rfl ?_
    refine V.widen (k := 2) (n := 12) (by decide) (by decide) ?_
    exact q_iretM (z := ((0 : Nat) : Int)) hc (Or.inl ⟨x1, x2, x3, rfl, hx4, hx5, hq28, hq33, hq34, hq35, hq38, hq39, hq24, ((fr0.trans fr12 (fun _ _ => by omega)).trans fr40 (fun _ _ => by omega))⟩) hr hlk dL_lead_18

set_option maxRecDepth 100000 in
set_option maxHeartbeats 8000000 in
theorem c_L_rip (l : Launch) (hl : l.stackTraces = false) (D : va_G) (K : Nat → ClassId) (ws : va_W) (ad : Nat → Nat) (nc rc : Nat) (num : Int) (w h n : Nat) (us : Nat → Nat) (pn : Nat → Nat) (rl : Nat → Int) (ro : Nat → Nat → Bool) (fo : Nat → Int) (h0 : ws[0]? = some (ad 0, xO ad nc rc)) (h1 : ws[1]? = some (ad 1, gO ad w h n)) (h3 : ws[3]? = some (ad 3, iN K (2 * n) us)) (h29 : ws[29]? = some (ad 29, nA K 12 (nF ad))) (hN : ∀ s, s < 12 → ws[30 + 3 * s]? = some (ad (30 + 3 * s), nO ad s (pn s) (rl s))) (hO : ∀ s, s < 12 → ws[32 + 3 * s]? = some (ad (32 + 3 * s), zA K (2 * n) (ro s))) (h78 : ws[78]? = some (ad 78, jA K 1 fo)) (hnc : nc ≤ 12) (hnum : -2147483648 ≤ num ∧ num < 2147483648) (hn : n ≤ 64) (hI : Inv n nc (us, ro, rl)) : MLi l yL_rip wsL_rip ({ frames := 8, cells := 1, slots := 6, locals := 132 }) D K ws [.ref (ad 0), .int (iZ num), .ref (ad 78)] 1 (fun r u => ((r = iZ ((0 : Nat) : Int)) ∧ (0 ≤ num ∧ num < (nc : Int)) ∧ (u[3]? = some (ad 3, iN K (2 * n) (sbU us (ro num.toNat)))) ∧ (∀ s, s < 12 → u[30 + 3 * s]? = some (ad (30 + 3 * s), nO ad s (pn s) ((va_up rl num.toNat (-1)) s))) ∧ (∀ s, s < 12 → u[32 + 3 * s]? = some (ad (32 + 3 * s), zA K (2 * n) ((va_up ro num.toNat (fun _ => false)) s))) ∧ (u[78]? = some (ad 78, jA K 1 (va_up fo 0 ((iZ (rl num.toNat)).toInt)))) ∧ (Fr (fun j => j = 3 ∨ (30 ≤ j ∧ j < 66 ∧ (j - 30) % 3 = 0) ∨ (32 ≤ j ∧ j < 68 ∧ (j - 32) % 3 = 0) ∨ j = 78) ws u)) ∨ ((r = iZ ((1 : Nat) : Int)) ∧ (¬ (0 ≤ num ∧ num < (nc : Int))) ∧ (ws = u))) := by
  refine q_entL RL [(0, .ref (ad 0)), (1, .int (iZ num)), (2, .ref (ad 78))] (by decide) rfl rfl (Nat.le_of_ble_eq_true rfl) rfl ?_
  intro p e s m args below meth c hc hXE htab hr hlk
  have fr0 : Fr (fun j => j = 3 ∨ (30 ≤ j ∧ j < 66 ∧ (j - 30) % 3 = 0) ∨ (32 ≤ j ∧ j < 68 ∧ (j - 32) % 3 = 0) ∨ j = 78) ws ws := Fr.rfl
  refine q_aload_n hc 2 dL_rip_0 rfl ?_
  refine q_iconstN hc 0 dL_rip_1 rfl ?_
  refine q_aload_n hc 0 dL_rip_2 rfl ?_
  refine q_iload_n hc 1 dL_rip_3 rfl ?_
  refine q_callCi (As := [.int (iZ num)]) (rest := [.int (iZ ((0 : Nat) : Int)), .ref (ad 78)]) hc hXE (c_X4_rip l hl D K ws ad nc rc num w h n us pn rl ro h0 h1 h3 h29 hN hO hnc hnum hn hI) (cwV 1 hc.1.2.2.2.2 gL_rip_X4_rip rfl rfl rfl (by decide +kernel) ⟨Nat.le_of_ble_eq_true rfl, Nat.le_of_ble_eq_true rfl⟩) 0 h0 rfl rfl rfl (by simp [Value.category]) dL_rip_4 ⟨Nat.le_of_ble_eq_true rfl, Nat.le_of_ble_eq_true rfl⟩ ?_ (fun r u hp' => ?_)
  · intro E hx9
    rcases hx9 with ⟨rfl, x0⟩
    refine ct1 htab  rfl (by decide) (hc.1.2.2.2.2 (.classLink RL 13 "java/lang/IndexOutOfBoundsException") (by decide +kernel)) (va_Nw.use (exB_on _ (show Cond.castable "java/lang/IndexOutOfBoundsException" "java/lang/IndexOutOfBoundsException" ∈ exB by decide +kernel)) (hXE.2.2.1 _ (show Cond.castable "java/lang/IndexOutOfBoundsException" "java/lang/IndexOutOfBoundsException" ∈ exB by decide +kernel))) (fun q => ?_)
    try dsimp only
    refine q_astore_n hc [(3, .ref q), (0, .ref (ad 0)), (1, .int (iZ num)), (2, .ref (ad 78))] dL_rip_12 rfl (by decide) rfl ?_
    refine q_iconstN hc 1 dL_rip_13 rfl ?_
    refine V.widen (k := 1) (n := 6) (by decide) (by decide) ?_
    exact q_iretM (z := ((1 : Nat) : Int)) hc (Or.inr (⟨rfl, x0, rfl⟩)) hr hlk dL_rip_14
  · obtain ⟨hr9, hx1, hq2, hq3, hq4, fr5⟩ := hp'; subst hr9
    have hq6 := (fr5.at 0 (by omega)).trans h0
    have hq7 := (fr5.at 1 (by omega)).trans h1
    have hq8 := (fr5.at 29 (by omega)).trans h29
    have hq9 := (fr5.at 78 (by omega)).trans h78
    refine q_i2lw hc dL_rip_7 ?_
    refine q_last (j := 0) (x := (iZ (rl num.toNat)).toInt) hc 78 hq9 rfl (by omega) (by omega) dL_rip_8 (fun u10 hn' hf' => ?_)
    have hq11 : u10[78]? = some (ad 78, jA K 1 (va_up fo 0 ((iZ (rl num.toNat)).toInt))) := hn'
    have hq12 := (hf' 0 (by omega)).trans hq6
    have hq13 := (hf' 1 (by omega)).trans hq7
    have hq14 := (hf' 3 (by omega)).trans hq2
    have hq15 := (hf' 29 (by omega)).trans hq8
    have hq16 : ∀ s, s < 12 → u10[30 + 3 * s]? = some (ad (30 + 3 * s), nO ad s (pn s) ((va_up rl num.toNat (-1)) s)) := fun s hs => (hf' (30 + 3 * s) (by omega)).trans (hq3 s hs)
    have hq17 : ∀ s, s < 12 → u10[32 + 3 * s]? = some (ad (32 + 3 * s), zA K (2 * n) ((va_up ro num.toNat (fun _ => false)) s)) := fun s hs => (hf' (32 + 3 * s) (by omega)).trans (hq4 s hs)
    have fr18 := Fr.one hf'
    refine q_goto hc 15 dL_rip_9 (by decide) ?_
    refine q_iconstN hc 0 dL_rip_15 rfl ?_
    refine V.widen (k := 1) (n := 6) (by decide) (by decide) ?_
    exact q_iretM (z := ((0 : Nat) : Int)) hc (Or.inl ⟨rfl, hx1, hq14, hq16, hq17, hq11, ((fr0.trans fr5 (fun _ _ => by omega)).trans fr18 (fun _ _ => by omega))⟩) hr hlk dL_rip_16

set_option maxRecDepth 100000 in
set_option maxHeartbeats 8000000 in
theorem c_L_run (l : Launch) (hl : l.stackTraces = false) (D : va_G) (K : Nat → ClassId) (ws : va_W) (ad : Nat → Nat) (rounds : Int) (hb : Nat) (nc rc : Nat) (w h n : Nat) (cap us hi co di : Nat → Nat) (tr : Nat → Bool) (nb bt : Nat → Option Nat) (pn : Nat → Nat) (rl : Nat → Int) (pi : Nat → Nat → Nat) (ro : Nat → Nat → Bool) (fo : Nat → Int) (h0 : ws[0]? = some (ad 0, xO ad nc rc)) (h1 : ws[1]? = some (ad 1, gO ad w h n)) (h2 : ws[2]? = some (ad 2, iN K (2 * n) cap)) (h3 : ws[3]? = some (ad 3, iN K (2 * n) us)) (h4 : ws[4]? = some (ad 4, iN K (2 * n) hi)) (h5 : ws[5]? = some (ad 5, iA K (4 * n) (fun k => oZ (nb k)))) (h6 : ws[6]? = some (ad 6, iA K (4 * n) (fun k => oZ (bt k)))) (h7 : ws[7]? = some (ad 7, lO ad)) (h8 : ws[8]? = some (ad 8, iN K (2 * n) co)) (h9 : ws[9]? = some (ad 9, iN K n di)) (h10 : ws[10]? = some (ad 10, zA K n tr)) (h29 : ws[29]? = some (ad 29, nA K 12 (nF ad))) (hN : ∀ s, s < 12 → ws[30 + 3 * s]? = some (ad (30 + 3 * s), nO ad s (pn s) (rl s))) (hP : ∀ s, s < 12 → ws[31 + 3 * s]? = some (ad (31 + 3 * s), iN K 5 (pi s))) (hO : ∀ s, s < 12 → ws[32 + 3 * s]? = some (ad (32 + 3 * s), zA K (2 * n) (ro s))) (h78 : ws[78]? = some (ad 78, jA K 1 fo)) (hn : n ≤ 64) (hnc : nc ≤ 12) (hNB : NB n nb bt) (hcap : ∀ k, k < 2 * n → cap k ≤ 20) (hpn : ∀ j, j < nc → pn j ≤ 5) (hpin : ∀ j k, j < nc → k < pn j → pi j k < n) (hhb : ∀ k, k < 2 * n → hi k ≤ hb) (hb1 : hb + 10 ≤ 5120) (hrounds : -2147483648 ≤ rounds ∧ rounds < 2147483648) (hrc : rc + 10 < 2147483648) (hI : Inv n nc (us, ro, rl)) : MLi l yL_run wsL_run ({ frames := 7, cells := 1, slots := 6, locals := 159 }) D K ws [.ref (ad 0), .int (iZ rounds), .ref (ad 78)] 1 (fun r u => (∃ (cv : Nat → Nat) (dv : Nat → Nat) (tv : Nat → Bool), (r = iZ ((0 : Nat) : Int)) ∧ (0 ≤ rounds ∧ rounds ≤ 10) ∧ (u[3]? = some (ad 3, iN K (2 * n) ((rnN nb bt n nc cap pn pi rounds.toNat ((us, ro, rl), hi)).2.1.1))) ∧ (u[4]? = some (ad 4, iN K (2 * n) ((rnN nb bt n nc cap pn pi rounds.toNat ((us, ro, rl), hi)).2.2))) ∧ (u[0]? = some (ad 0, xO ad nc (rc + (rnN nb bt n nc cap pn pi rounds.toNat ((us, ro, rl), hi)).1))) ∧ (u[8]? = some (ad 8, iN K (2 * n) cv)) ∧ (u[9]? = some (ad 9, iN K n dv)) ∧ (u[10]? = some (ad 10, zA K n tv)) ∧ (∀ s, s < 12 → u[30 + 3 * s]? = some (ad (30 + 3 * s), nO ad s (pn s) (((rnN nb bt n nc cap pn pi rounds.toNat ((us, ro, rl), hi)).2.1.2.2) s))) ∧ (∀ s, s < 12 → u[32 + 3 * s]? = some (ad (32 + 3 * s), zA K (2 * n) (((rnN nb bt n nc cap pn pi rounds.toNat ((us, ro, rl), hi)).2.1.2.1) s))) ∧ (u[78]? = some (ad 78, jA K 1 (va_up fo 0 ((iZ (((rnN nb bt n nc cap pn pi rounds.toNat ((us, ro, rl), hi)).1 : Nat) : Int)).toInt)))) ∧ (Fr (fun j => j = 3 ∨ j = 4 ∨ j = 0 ∨ j = 8 ∨ j = 9 ∨ j = 10 ∨ (30 ≤ j ∧ j < 66 ∧ (j - 30) % 3 = 0) ∨ (32 ≤ j ∧ j < 68 ∧ (j - 32) % 3 = 0) ∨ j = 78) ws u)) ∨ ((r = iZ ((1 : Nat) : Int)) ∧ (¬ (0 ≤ rounds ∧ rounds ≤ 10)) ∧ (ws = u))) := by
  refine q_entL RL [(0, .ref (ad 0)), (1, .int (iZ rounds)), (2, .ref (ad 78))] (by decide) rfl rfl (Nat.le_of_ble_eq_true rfl) rfl ?_
  intro p e s m args below meth c hc hXE htab hr hlk
  have fr0 : Fr (fun j => j = 3 ∨ j = 4 ∨ j = 0 ∨ j = 8 ∨ j = 9 ∨ j = 10 ∨ (30 ≤ j ∧ j < 66 ∧ (j - 30) % 3 = 0) ∨ (32 ≤ j ∧ j < 68 ∧ (j - 32) % 3 = 0) ∨ j = 78) ws ws := Fr.rfl
  refine q_aload_n hc 2 dL_run_0 rfl ?_
  refine q_iconstN hc 0 dL_run_1 rfl ?_
  refine q_aload_n hc 0 dL_run_2 rfl ?_
  refine q_iload_n hc 1 dL_run_3 rfl ?_
  refine q_callCi (As := [.int (iZ rounds)]) (rest := [.int (iZ ((0 : Nat) : Int)), .ref (ad 78)]) hc hXE (c_X4_run l hl D K ws ad rounds hb nc rc w h n cap us hi co di tr nb bt pn rl pi ro h0 h1 h2 h3 h4 h5 h6 h7 h8 h9 h10 h29 hN hP hO hn hnc hNB hcap hpn hpin hhb hb1 hrounds hrc hI) (cwV 1 hc.1.2.2.2.2 gL_run_X4_run rfl rfl rfl (by decide +kernel) ⟨Nat.le_of_ble_eq_true rfl, Nat.le_of_ble_eq_true rfl⟩) 0 h0 rfl rfl rfl (by simp [Value.category]) dL_run_4 ⟨Nat.le_of_ble_eq_true rfl, Nat.le_of_ble_eq_true rfl⟩ ?_ (fun r u hp' => ?_)
  · intro E hx9
    rcases hx9 with ⟨rfl, x0⟩
    refine ct1 htab  rfl (by decide) (hc.1.2.2.2.2 (.classLink RL 15 "java/lang/IllegalArgumentException") (by decide +kernel)) (va_Nw.use (exB_on _ (show Cond.castable "java/lang/IllegalArgumentException" "java/lang/IllegalArgumentException" ∈ exB by decide +kernel)) (hXE.2.2.1 _ (show Cond.castable "java/lang/IllegalArgumentException" "java/lang/IllegalArgumentException" ∈ exB by decide +kernel))) (fun q => ?_)
    try dsimp only
    refine q_astore_n hc [(3, .ref q), (0, .ref (ad 0)), (1, .int (iZ rounds)), (2, .ref (ad 78))] dL_run_12 rfl (by decide) rfl ?_
    refine q_iconstN hc 1 dL_run_13 rfl ?_
    refine V.widen (k := 1) (n := 6) (by decide) (by decide) ?_
    exact q_iretM (z := ((1 : Nat) : Int)) hc (Or.inr (⟨rfl, x0, rfl⟩)) hr hlk dL_run_14
  · obtain ⟨x1, x2, x3, hr9, hx4, hq5, hq6, hq7, hq8, hq9, hq10, hq11, hq12, fr13⟩ := hp'; subst hr9
    have hq14 := (fr13.at 1 (by omega)).trans h1
    have hq15 := (fr13.at 2 (by omega)).trans h2
    have hq16 := (fr13.at 5 (by omega)).trans h5
    have hq17 := (fr13.at 6 (by omega)).trans h6
    have hq18 := (fr13.at 7 (by omega)).trans h7
    have hq19 := (fr13.at 29 (by omega)).trans h29
    have hq20 := (fr13.at 78 (by omega)).trans h78
    have hq21 : ∀ s, s < 12 → u[31 + 3 * s]? = some (ad (31 + 3 * s), iN K 5 (pi s)) := fun s hs => (fr13.at (31 + 3 * s) (by omega)).trans (hP s hs)
    refine q_i2lw hc dL_run_7 ?_
    refine q_last (j := 0) (x := (iZ (((rnN nb bt n nc cap pn pi rounds.toNat ((us, ro, rl), hi)).1 : Nat) : Int)).toInt) hc 78 hq20 rfl (by omega) (by omega) dL_run_8 (fun u22 hn' hf' => ?_)
    have hq23 : u22[78]? = some (ad 78, jA K 1 (va_up fo 0 ((iZ (((rnN nb bt n nc cap pn pi rounds.toNat ((us, ro, rl), hi)).1 : Nat) : Int)).toInt))) := hn'
    have hq24 := (hf' 0 (by omega)).trans hq7
    have hq25 := (hf' 1 (by omega)).trans hq14
    have hq26 := (hf' 2 (by omega)).trans hq15
    have hq27 := (hf' 3 (by omega)).trans hq5
    have hq28 := (hf' 4 (by omega)).trans hq6
    have hq29 := (hf' 5 (by omega)).trans hq16
    have hq30 := (hf' 6 (by omega)).trans hq17
    have hq31 := (hf' 7 (by omega)).trans hq18
    have hq32 := (hf' 8 (by omega)).trans hq8
    have hq33 := (hf' 9 (by omega)).trans hq9
    have hq34 := (hf' 10 (by omega)).trans hq10
    have hq35 := (hf' 29 (by omega)).trans hq19
    have hq36 : ∀ s, s < 12 → u22[31 + 3 * s]? = some (ad (31 + 3 * s), iN K 5 (pi s)) := fun s hs => (hf' (31 + 3 * s) (by omega)).trans (hq21 s hs)
    have hq37 : ∀ s, s < 12 → u22[30 + 3 * s]? = some (ad (30 + 3 * s), nO ad s (pn s) (((rnN nb bt n nc cap pn pi rounds.toNat ((us, ro, rl), hi)).2.1.2.2) s)) := fun s hs => (hf' (30 + 3 * s) (by omega)).trans (hq11 s hs)
    have hq38 : ∀ s, s < 12 → u22[32 + 3 * s]? = some (ad (32 + 3 * s), zA K (2 * n) (((rnN nb bt n nc cap pn pi rounds.toNat ((us, ro, rl), hi)).2.1.2.1) s)) := fun s hs => (hf' (32 + 3 * s) (by omega)).trans (hq12 s hs)
    have fr39 := Fr.one hf'
    refine q_goto hc 15 dL_run_9 (by decide) ?_
    refine q_iconstN hc 0 dL_run_15 rfl ?_
    refine V.widen (k := 1) (n := 6) (by decide) (by decide) ?_
    exact q_iretM (z := ((0 : Nat) : Int)) hc (Or.inl ⟨x1, x2, x3, rfl, hx4, hq27, hq28, hq24, hq32, hq33, hq34, hq37, hq38, hq23, ((fr0.trans fr13 (fun _ _ => by omega)).trans fr39 (fun _ _ => by omega))⟩) hr hlk dL_run_16
