set_option maxRecDepth 100000 in
set_option maxHeartbeats 8000000 in
theorem c_L_length (l : Launch) (hl : l.stackTraces = false) (D : va_G) (K : Nat → ClassId) (ws : va_W) (ad : Nat → Nat) (nc rc : Nat) (num : Int) (pn : Nat → Nat) (rl : Nat → Int) (fo : Nat → Int) (h0 : ws[0]? = some (ad 0, xO ad nc rc)) (h29 : ws[29]? = some (ad 29, nA K 12 (nF ad))) (hN : ∀ s, s < 12 → ws[30 + 3 * s]? = some (ad (30 + 3 * s), nO ad s (pn s) (rl s))) (h78 : ws[78]? = some (ad 78, jA K 1 fo)) (hnc : nc ≤ 12) (hnum : -2147483648 ≤ num ∧ num < 2147483648) : MLi l yL_length wsL_length ({ frames := 8, cells := 1, slots := 6, locals := 132 }) D K ws [.ref (ad 0), .int (iZ num), .ref (ad 78)] 1 (fun r u => ((r = iZ ((0 : Nat) : Int)) ∧ (0 ≤ num ∧ num < (nc : Int)) ∧ (u[78]? = some (ad 78, jA K 1 (va_up fo 0 ((iZ (rl num.toNat)).toInt)))) ∧ (Fr (fun j => j = 78) ws u)) ∨ ((r = iZ ((1 : Nat) : Int)) ∧ (¬ (0 ≤ num ∧ num < (nc : Int))) ∧ (ws = u))) := by
  refine q_entL RL [(0, .ref (ad 0)), (1, .int (iZ num)), (2, .ref (ad 78))] (by decide) rfl rfl (Nat.le_of_ble_eq_true rfl) rfl ?_
  intro p e s m args below meth c hc hXE htab hr hlk
  have fr0 : Fr (fun j => j = 78) ws ws := Fr.rfl
  refine q_aload_n hc 2 dL_length_0 rfl ?_
  refine q_iconstN hc 0 dL_length_1 rfl ?_
  refine q_aload_n hc 0 dL_length_2 rfl ?_
  refine q_iload_n hc 1 dL_length_3 rfl ?_
  refine q_callCi (As := [.int (iZ num)]) (rest := [.int (iZ ((0 : Nat) : Int)), .ref (ad 78)]) hc hXE (c_X4_length l hl D K ws ad nc rc num pn rl h0 h29 hN hnc hnum) (cwV 1 hc.1.2.2.2.2 gL_length_X4_length rfl rfl rfl (by decide +kernel) ⟨Nat.le_of_ble_eq_true rfl, Nat.le_of_ble_eq_true rfl⟩) 0 h0 rfl rfl rfl (by simp [Value.category]) dL_length_4 ⟨Nat.le_of_ble_eq_true rfl, Nat.le_of_ble_eq_true rfl⟩ ?_ (fun r u hp' => ?_)
  · intro E hx9
    rcases hx9 with ⟨rfl, x0⟩
    refine ct1 htab  rfl (by decide) (hc.1.2.2.2.2 (.classLink RL 13 "java/lang/IndexOutOfBoundsException") (by decide +kernel)) (va_Nw.use (exB_on _ (show Cond.castable "java/lang/IndexOutOfBoundsException" "java/lang/IndexOutOfBoundsException" ∈ exB by decide +kernel)) (hXE.2.2.1 _ (show Cond.castable "java/lang/IndexOutOfBoundsException" "java/lang/IndexOutOfBoundsException" ∈ exB by decide +kernel))) (fun q => ?_)
    try dsimp only
    refine q_astore_n hc [(3, .ref q), (0, .ref (ad 0)), (1, .int (iZ num)), (2, .ref (ad 78))] dL_length_12 rfl (by decide) rfl ?_
    refine q_iconstN hc 1 dL_length_13 rfl ?_
    refine V.widen (k := 1) (n := 6) (by decide) (by decide) ?_
    exact q_iretM (z := ((1 : Nat) : Int)) hc (Or.inr (⟨rfl, x0, rfl⟩)) hr hlk dL_length_14
  · obtain ⟨hr9, hx1, hw9⟩ := hp'; subst hw9; subst hr9
    refine q_i2lw hc dL_length_7 ?_
    refine q_last (j := 0) (x := (iZ (rl num.toNat)).toInt) hc 78 h78 rfl (by omega) (by omega) dL_length_8 (fun u2 hn' hf' => ?_)
    have hq3 : u2[78]? = some (ad 78, jA K 1 (va_up fo 0 ((iZ (rl num.toNat)).toInt))) := hn'
    have hq4 := (hf' 0 (by omega)).trans h0
    have hq5 := (hf' 29 (by omega)).trans h29
    have hq6 : ∀ s, s < 12 → u2[30 + 3 * s]? = some (ad (30 + 3 * s), nO ad s (pn s) (rl s)) := fun s hs => (hf' (30 + 3 * s) (by omega)).trans (hN s hs)
    have fr7 := Fr.one hf'
    refine q_goto hc 15 dL_length_9 (by decide) ?_
    refine q_iconstN hc 0 dL_length_15 rfl ?_
    refine V.widen (k := 1) (n := 6) (by decide) (by decide) ?_
    exact q_iretM (z := ((0 : Nat) : Int)) hc (Or.inl ⟨rfl, hx1, hq3, (fr0.trans fr7 (fun _ _ => by omega))⟩) hr hlk dL_length_16

set_option maxRecDepth 100000 in
set_option maxHeartbeats 8000000 in
theorem c_L_least (l : Launch) (hl : l.stackTraces = false) (D : va_G) (K : Nat → ClassId) (ws : va_W) (ad : Nat → Nat) (nc rc : Nat) (num : Int) (w h n : Nat) (pn : Nat → Nat) (rl : Nat → Int) (pi : Nat → Nat → Nat) (nb bt : Nat → Option Nat) (rw : Nat → Nat → Nat) (fo : Nat → Int) (h0 : ws[0]? = some (ad 0, xO ad nc rc)) (h1 : ws[1]? = some (ad 1, gO ad w h n)) (h5 : ws[5]? = some (ad 5, iA K (4 * n) (fun k => oZ (nb k)))) (h11 : ws[11]? = some (ad 11, tO ad)) (h12 : ws[12]? = some (ad 12, rA K 16 (rF ad))) (hR : ∀ s, s < 16 → ws[13 + s]? = some (ad (13 + s), iN K n (rw s))) (h29 : ws[29]? = some (ad 29, nA K 12 (nF ad))) (hN : ∀ s, s < 12 → ws[30 + 3 * s]? = some (ad (30 + 3 * s), nO ad s (pn s) (rl s))) (hP : ∀ s, s < 12 → ws[31 + 3 * s]? = some (ad (31 + 3 * s), iN K 5 (pi s))) (h78 : ws[78]? = some (ad 78, jA K 1 fo)) (hnc : nc ≤ 12) (hnum : -2147483648 ≤ num ∧ num < 2147483648) (hn : n ≤ 64) (hw : 0 < w ∧ w ≤ 8 ∧ h ≤ 8) (hNB : NB n nb bt) (hpn : ∀ j, j < nc → pn j ≤ 5) (hpin : ∀ j k, j < nc → k < pn j → pi j k < n) (hpif : ∀ j k, j < nc → pi j k < 64) (hrw : ∀ s k, rw s k ≤ 1000000000) : MLi l yL_least wsL_least ({ frames := 8, cells := 1, slots := 6, locals := 132 }) D K ws [.ref (ad 0), .int (iZ num), .ref (ad 78)] 1 (fun r u => ((r = iZ ((0 : Nat) : Int)) ∧ (0 ≤ num ∧ num < (nc : Int)) ∧ (∀ s, s < 16 → u[13 + s]? = some (ad (13 + s), iN K n ((lsR nb w n (pn num.toNat) (pi num.toNat) rw) s))) ∧ (u[78]? = some (ad 78, jA K 1 (va_up fo 0 ((iZ ((lsV nb w n (pn num.toNat) (pi num.toNat) rw : Nat) : Int)).toInt)))) ∧ (Fr (fun j => (13 ≤ j ∧ j < 29) ∨ j = 78) ws u)) ∨ ((r = iZ ((1 : Nat) : Int)) ∧ (¬ (0 ≤ num ∧ num < (nc : Int))) ∧ (ws = u))) := by
  refine q_entL RL [(0, .ref (ad 0)), (1, .int (iZ num)), (2, .ref (ad 78))] (by decide) rfl rfl (Nat.le_of_ble_eq_true rfl) rfl ?_
  intro p e s m args below meth c hc hXE htab hr hlk
  have fr0 : Fr (fun j => (13 ≤ j ∧ j < 29) ∨ j = 78) ws ws := Fr.rfl
  refine q_aload_n hc 2 dL_least_0 rfl ?_
  refine q_iconstN hc 0 dL_least_1 rfl ?_
  refine q_aload_n hc 0 dL_least_2 rfl ?_
  refine q_iload_n hc 1 dL_least_3 rfl ?_
  refine q_callCi (As := [.int (iZ num)]) (rest := [.int (iZ ((0 : Nat) : Int)), .ref (ad 78)]) hc hXE (c_X4_least l hl D K ws ad nc rc num w h n pn rl pi nb bt rw h0 h1 h5 h11 h12 hR h29 hN hP hnc hnum hn hw hNB hpn hpin hpif hrw) (cwV 1 hc.1.2.2.2.2 gL_least_X4_least rfl rfl rfl (by decide +kernel) ⟨Nat.le_of_ble_eq_true rfl, Nat.le_of_ble_eq_true rfl⟩) 0 h0 rfl rfl rfl (by simp [Value.category]) dL_least_4 ⟨Nat.le_of_ble_eq_true rfl, Nat.le_of_ble_eq_true rfl⟩ ?_ (fun r u hp' => ?_)
  · intro E hx9
    rcases hx9 with ⟨rfl, x0⟩
    refine ct1 htab  rfl (by decide) (hc.1.2.2.2.2 (.classLink RL 13 "java/lang/IndexOutOfBoundsException") (by decide +kernel)) (va_Nw.use (exB_on _ (show Cond.castable "java/lang/IndexOutOfBoundsException" "java/lang/IndexOutOfBoundsException" ∈ exB by decide +kernel)) (hXE.2.2.1 _ (show Cond.castable "java/lang/IndexOutOfBoundsException" "java/lang/IndexOutOfBoundsException" ∈ exB by decide +kernel))) (fun q => ?_)
    try dsimp only
    refine q_astore_n hc [(3, .ref q), (0, .ref (ad 0)), (1, .int (iZ num)), (2, .ref (ad 78))] dL_least_12 rfl (by decide) rfl ?_
    refine q_iconstN hc 1 dL_least_13 rfl ?_
    refine V.widen (k := 1) (n := 6) (by decide) (by decide) ?_
    exact q_iretM (z := ((1 : Nat) : Int)) hc (Or.inr (⟨rfl, x0, rfl⟩)) hr hlk dL_least_14
  · obtain ⟨hr9, hx1, hq2, fr3⟩ := hp'; subst hr9
    have hq4 := (fr3.at 0 (by omega)).trans h0
    have hq5 := (fr3.at 1 (by omega)).trans h1
    have hq6 := (fr3.at 5 (by omega)).trans h5
    have hq7 := (fr3.at 11 (by omega)).trans h11
    have hq8 := (fr3.at 12 (by omega)).trans h12
    have hq9 := (fr3.at 29 (by omega)).trans h29
    have hq10 := (fr3.at 78 (by omega)).trans h78
    have hq11 : ∀ s, s < 12 → u[30 + 3 * s]? = some (ad (30 + 3 * s), nO ad s (pn s) (rl s)) := fun s hs => (fr3.at (30 + 3 * s) (by omega)).trans (hN s hs)
    have hq12 : ∀ s, s < 12 → u[31 + 3 * s]? = some (ad (31 + 3 * s), iN K 5 (pi s)) := fun s hs => (fr3.at (31 + 3 * s) (by omega)).trans (hP s hs)
    refine q_i2lw hc dL_least_7 ?_
    refine q_last (j := 0) (x := (iZ ((lsV nb w n (pn num.toNat) (pi num.toNat) rw : Nat) : Int)).toInt) hc 78 hq10 rfl (by omega) (by omega) dL_least_8 (fun u13 hn' hf' => ?_)
    have hq14 : u13[78]? = some (ad 78, jA K 1 (va_up fo 0 ((iZ ((lsV nb w n (pn num.toNat) (pi num.toNat) rw : Nat) : Int)).toInt))) := hn'
    have hq15 := (hf' 0 (by omega)).trans hq4
    have hq16 := (hf' 1 (by omega)).trans hq5
    have hq17 := (hf' 5 (by omega)).trans hq6
    have hq18 := (hf' 11 (by omega)).trans hq7
    have hq19 := (hf' 12 (by omega)).trans hq8
    have hq20 := (hf' 29 (by omega)).trans hq9
    have hq21 : ∀ s, s < 12 → u13[30 + 3 * s]? = some (ad (30 + 3 * s), nO ad s (pn s) (rl s)) := fun s hs => (hf' (30 + 3 * s) (by omega)).trans (hq11 s hs)
    have hq22 : ∀ s, s < 12 → u13[31 + 3 * s]? = some (ad (31 + 3 * s), iN K 5 (pi s)) := fun s hs => (hf' (31 + 3 * s) (by omega)).trans (hq12 s hs)
    have hq23 : ∀ s, s < 16 → u13[13 + s]? = some (ad (13 + s), iN K n ((lsR nb w n (pn num.toNat) (pi num.toNat) rw) s)) := fun s hs => (hf' (13 + s) (by omega)).trans (hq2 s hs)
    have fr24 := Fr.one hf'
    refine q_goto hc 15 dL_least_9 (by decide) ?_
    refine q_iconstN hc 0 dL_least_15 rfl ?_
    refine V.widen (k := 1) (n := 6) (by decide) (by decide) ?_
    exact q_iretM (z := ((0 : Nat) : Int)) hc (Or.inl ⟨rfl, hx1, hq23, hq14, ((fr0.trans fr3 (fun _ _ => by omega)).trans fr24 (fun _ _ => by omega))⟩) hr hlk dL_least_16

set_option maxRecDepth 100000 in
set_option maxHeartbeats 8000000 in
theorem c_L_has (l : Launch) (hl : l.stackTraces = false) (D : va_G) (K : Nat → ClassId) (ws : va_W) (ad : Nat → Nat) (nc rc : Nat) (num : Int) (x y : Int) (d : Bool) (w h n : Nat) (pn : Nat → Nat) (rl : Nat → Int) (ro : Nat → Nat → Bool) (fo : Nat → Int) (h0 : ws[0]? = some (ad 0, xO ad nc rc)) (h1 : ws[1]? = some (ad 1, gO ad w h n)) (h29 : ws[29]? = some (ad 29, nA K 12 (nF ad))) (hN : ∀ s, s < 12 → ws[30 + 3 * s]? = some (ad (30 + 3 * s), nO ad s (pn s) (rl s))) (hO : ∀ s, s < 12 → ws[32 + 3 * s]? = some (ad (32 + 3 * s), zA K (2 * n) (ro s))) (h78 : ws[78]? = some (ad 78, jA K 1 fo)) (hnc : nc ≤ 12) (hnum : -2147483648 ≤ num ∧ num < 2147483648) (hx : -2147483648 ≤ x ∧ x < 2147483648) (hy : -2147483648 ≤ y ∧ y < 2147483648) (hn : n ≤ 64) (hw : 0 < w ∧ w ≤ 8 ∧ h ≤ 8) (hxy : ∀ x y, x < w → y < h → x + w * y < n) : MLi l yL_has wsL_has ({ frames := 8, cells := 2, slots := 12, locals := 139 }) D K ws [.ref (ad 0), .int (iZ num), .int (iZ x), .int (iZ y), .int (iZ (bZ d)), .ref (ad 78)] 2 (fun r u => ((r = iZ ((0 : Nat) : Int)) ∧ (0 ≤ num ∧ num < (nc : Int)) ∧ (hB w h x y d = true) ∧ (u[78]? = some (ad 78, jA K 1 (va_up fo 0 (bZ (ro num.toNat (bIx w x y d)))))) ∧ (Fr (fun j => j = 78) ws u)) ∨ ((r = iZ ((1 : Nat) : Int)) ∧ (¬ (0 ≤ num ∧ num < (nc : Int))) ∧ (ws = u)) ∨ ((r = iZ ((1 : Nat) : Int)) ∧ ((0 ≤ num ∧ num < (nc : Int))) ∧ (hB w h x y d = false) ∧ (ws = u))) := by
  refine q_entL RL [(0, .ref (ad 0)), (1, .int (iZ num)), (2, .int (iZ x)), (3, .int (iZ y)), (4, .int (iZ (bZ d))), (5, .ref (ad 78))] (by decide) rfl rfl (Nat.le_of_ble_eq_true rfl) rfl ?_
  intro p e s m args below meth c hc hXE htab hr hlk
  have fr0 : Fr (fun j => j = 78) ws ws := Fr.rfl
  refine q_aload hc 5 dL_has_0 rfl ?_
  refine q_iconstN hc 0 dL_has_2 rfl ?_
  refine q_aload_n hc 0 dL_has_3 rfl ?_
  refine q_iload_n hc 1 dL_has_4 rfl ?_
  refine q_iload_n hc 2 dL_has_5 rfl ?_
  refine q_iload_n hc 3 dL_has_6 rfl ?_
  refine q_iload hc 4 dL_has_7 rfl ?_
  refine q_callCi (As := [.int (iZ num), .int (iZ x), .int (iZ y), .int (iZ (bZ d))]) (rest := [.int (iZ ((0 : Nat) : Int)), .ref (ad 78)]) hc hXE (c_X4_has l hl D K ws ad nc rc num x y d w h n pn rl ro h0 h1 h29 hN hO hnc hnum hx hy hn hw hxy) (cwV 4 hc.1.2.2.2.2 gL_has_X4_has rfl rfl rfl (by decide +kernel) ⟨Nat.le_of_ble_eq_true rfl, Nat.le_of_ble_eq_true rfl⟩) 0 h0 rfl rfl rfl (by simp [Value.category]) dL_has_9 ⟨Nat.le_of_ble_eq_true rfl, Nat.le_of_ble_eq_true rfl⟩ ?_ (fun r u hp' => ?_)
  · intro E hx9
    rcases hx9 with ⟨rfl, x0⟩ | ⟨rfl, x0, x1⟩
    · refine ct1 htab  rfl (by decide) (hc.1.2.2.2.2 (.classLink RL 13 "java/lang/IndexOutOfBoundsException") (by decide +kernel)) (va_Nw.use (exB_on _ (show Cond.castable "java/lang/IndexOutOfBoundsException" "java/lang/IndexOutOfBoundsException" ∈ exB by decide +kernel)) (hXE.2.2.1 _ (show Cond.castable "java/lang/IndexOutOfBoundsException" "java/lang/IndexOutOfBoundsException" ∈ exB by decide +kernel))) (fun q => ?_)
      try dsimp only
      refine q_astore hc [(6, .ref q), (0, .ref (ad 0)), (1, .int (iZ num)), (2, .int (iZ x)), (3, .int (iZ y)), (4, .int (iZ (bZ d))), (5, .ref (ad 78))] dL_has_24 (by decide) rfl ?_
      refine q_iconstN hc 1 dL_has_26 rfl ?_
      refine V.widen (k := 2) (n := 12) (by decide) (by decide) ?_
      exact q_iretM (z := ((1 : Nat) : Int)) hc (Or.inr (Or.inl ⟨rfl, x0, rfl⟩)) hr hlk dL_has_27
    · refine ct1 htab  rfl (by decide) (hc.1.2.2.2.2 (.classLink RL 13 "java/lang/IndexOutOfBoundsException") (by decide +kernel)) (va_Nw.use (exB_on _ (show Cond.castable "java/lang/IndexOutOfBoundsException" "java/lang/IndexOutOfBoundsException" ∈ exB by decide +kernel)) (hXE.2.2.1 _ (show Cond.castable "java/lang/IndexOutOfBoundsException" "java/lang/IndexOutOfBoundsException" ∈ exB by decide +kernel))) (fun q => ?_)
      try dsimp only
      refine q_astore hc [(6, .ref q), (0, .ref (ad 0)), (1, .int (iZ num)), (2, .int (iZ x)), (3, .int (iZ y)), (4, .int (iZ (bZ d))), (5, .ref (ad 78))] dL_has_24 (by decide) rfl ?_
      refine q_iconstN hc 1 dL_has_26 rfl ?_
      refine V.widen (k := 2) (n := 12) (by decide) (by decide) ?_
      exact q_iretM (z := ((1 : Nat) : Int)) hc (Or.inr (Or.inr (⟨rfl, x0, x1, rfl⟩))) hr hlk dL_has_27
  · obtain ⟨hr9, hx1, hx2, hw9⟩ := hp'; subst hw9; subst hr9
    refine q_ifz_eq hc 19 dL_has_12 (by decide) (fun c3 => ?_) (fun c3 => ?_)
    · refine q_lconst (z := 0) hc dL_has_19 (by decide +kernel) ?_
      refine q_last (j := 0) (x := 0) hc 78 h78 rfl (by omega) (by omega) dL_has_20 (fun u4 hn' hf' => ?_)
      have hq5 : u4[78]? = some (ad 78, jA K 1 (va_up fo 0 0)) := hn'
      have hq6 := (hf' 0 (by omega)).trans h0
      have hq7 := (hf' 1 (by omega)).trans h1
      have hq8 := (hf' 29 (by omega)).trans h29
      have hq9 : ∀ s, s < 12 → u4[30 + 3 * s]? = some (ad (30 + 3 * s), nO ad s (pn s) (rl s)) := fun s hs => (hf' (30 + 3 * s) (by omega)).trans (hN s hs)
      have hq10 : ∀ s, s < 12 → u4[32 + 3 * s]? = some (ad (32 + 3 * s), zA K (2 * n) (ro s)) := fun s hs => (hf' (32 + 3 * s) (by omega)).trans (hO s hs)
      have fr11 := Fr.one hf'
      refine q_goto hc 28 dL_has_21 (by decide) ?_
      refine q_iconstN hc 0 dL_has_28 rfl ?_
      have ho9 : u4[78]? = some (ad 78, jA K 1 (va_up fo 0 (bZ (ro num.toNat (bIx w x y d))))) := by rw [show bZ (ro num.toNat (bIx w x y d)) = 0 from by rw [c3]; rfl]; exact hq5
      refine V.widen (k := 2) (n := 12) (by decide) (by decide) ?_
      exact q_iretM (z := ((0 : Nat) : Int)) hc (Or.inl ⟨rfl, hx1, hx2, ho9, (fr0.trans fr11 (fun _ _ => by omega))⟩) hr hlk dL_has_29
    · refine q_lconst (z := 1) hc dL_has_15 (by decide +kernel) ?_
      refine q_goto hc 20 dL_has_16 (by decide) ?_
      refine q_last (j := 0) (x := 1) hc 78 h78 rfl (by omega) (by omega) dL_has_20 (fun u12 hn' hf' => ?_)
      have hq13 : u12[78]? = some (ad 78, jA K 1 (va_up fo 0 1)) := hn'
      have hq14 := (hf' 0 (by omega)).trans h0
      have hq15 := (hf' 1 (by omega)).trans h1
      have hq16 := (hf' 29 (by omega)).trans h29
      have hq17 : ∀ s, s < 12 → u12[30 + 3 * s]? = some (ad (30 + 3 * s), nO ad s (pn s) (rl s)) := fun s hs => (hf' (30 + 3 * s) (by omega)).trans (hN s hs)
      have hq18 : ∀ s, s < 12 → u12[32 + 3 * s]? = some (ad (32 + 3 * s), zA K (2 * n) (ro s)) := fun s hs => (hf' (32 + 3 * s) (by omega)).trans (hO s hs)
      have fr19 := Fr.one hf'
      refine q_goto hc 28 dL_has_21 (by decide) ?_
      refine q_iconstN hc 0 dL_has_28 rfl ?_
      have ho9 : u12[78]? = some (ad 78, jA K 1 (va_up fo 0 (bZ (ro num.toNat (bIx w x y d))))) := by rw [show bZ (ro num.toNat (bIx w x y d)) = 1 from by rw [c3]; rfl]; exact hq13
      refine V.widen (k := 2) (n := 12) (by decide) (by decide) ?_
      exact q_iretM (z := ((0 : Nat) : Int)) hc (Or.inl ⟨rfl, hx1, hx2, ho9, (fr0.trans fr19 (fun _ _ => by omega))⟩) hr hlk dL_has_29

set_option maxRecDepth 100000 in
set_option maxHeartbeats 8000000 in
theorem c_L_border (l : Launch) (hl : l.stackTraces = false) (D : va_G) (K : Nat → ClassId) (ws : va_W) (ad : Nat → Nat) (nc rc : Nat) (x y : Int) (d : Bool) (w h n : Nat) (what : Int) (cap us hi : Nat → Nat) (fo : Nat → Int) (h0 : ws[0]? = some (ad 0, xO ad nc rc)) (h1 : ws[1]? = some (ad 1, gO ad w h n)) (h2 : ws[2]? = some (ad 2, iN K (2 * n) cap)) (h3 : ws[3]? = some (ad 3, iN K (2 * n) us)) (h4 : ws[4]? = some (ad 4, iN K (2 * n) hi)) (h78 : ws[78]? = some (ad 78, jA K 1 fo)) (hx : -2147483648 ≤ x ∧ x < 2147483648) (hy : -2147483648 ≤ y ∧ y < 2147483648) (hwhat : -2147483648 ≤ what ∧ what < 2147483648) (hn : n ≤ 64) (hw : 0 < w ∧ w ≤ 8 ∧ h ≤ 8) (hxy : ∀ x y, x < w → y < h → x + w * y < n) (hcap : ∀ k, k < 2 * n → cap k ≤ 20) (hus : ∀ k, k < 2 * n → us k ≤ 12) : MLi l yL_border wsL_border ({ frames := 8, cells := 2, slots := 12, locals := 138 }) D K ws [.ref (ad 0), .int (iZ x), .int (iZ y), .int (iZ (bZ d)), .int (iZ what), .ref (ad 78)] 2 (fun r u => ((r = iZ ((0 : Nat) : Int)) ∧ (hB w h x y d = true) ∧ (0 ≤ what ∧ what < 4) ∧ (u[78]? = some (ad 78, jA K 1 (va_up fo 0 ((iZ ((bdV cap us hi (bIx w x y d) what.toNat : Nat) : Int)).toInt)))) ∧ (Fr (fun j => j = 78) ws u)) ∨ ((r = iZ ((1 : Nat) : Int)) ∧ (hB w h x y d = false) ∧ (ws = u)) ∨ ((r = iZ ((2 : Nat) : Int)) ∧ (hB w h x y d = true) ∧ (¬ (0 ≤ what ∧ what < 4)) ∧ (ws = u))) := by
  refine q_entL RL [(0, .ref (ad 0)), (1, .int (iZ x)), (2, .int (iZ y)), (3, .int (iZ (bZ d))), (4, .int (iZ what)), (5, .ref (ad 78))] (by decide) rfl rfl (Nat.le_of_ble_eq_true rfl) rfl ?_
  intro p e s m args below meth c hc hXE htab hr hlk
  have fr0 : Fr (fun j => j = 78) ws ws := Fr.rfl
  refine q_aload hc 5 dL_border_0 rfl ?_
  refine q_iconstN hc 0 dL_border_2 rfl ?_
  refine q_aload_n hc 0 dL_border_3 rfl ?_
  refine q_iload_n hc 1 dL_border_4 rfl ?_
  refine q_iload_n hc 2 dL_border_5 rfl ?_
  refine q_iload_n hc 3 dL_border_6 rfl ?_
  refine q_iload hc 4 dL_border_7 rfl ?_
  refine q_callCi (As := [.int (iZ x), .int (iZ y), .int (iZ (bZ d)), .int (iZ what)]) (rest := [.int (iZ ((0 : Nat) : Int)), .ref (ad 78)]) hc hXE (c_X4_border l hl D K ws ad nc rc x y d w h n what cap us hi h0 h1 h2 h3 h4 hx hy hwhat hn hw hxy hcap hus) (cwV 4 hc.1.2.2.2.2 gL_border_X4_border rfl rfl rfl (by decide +kernel) ⟨Nat.le_of_ble_eq_true rfl, Nat.le_of_ble_eq_true rfl⟩) 0 h0 rfl rfl rfl (by simp [Value.category]) dL_border_9 ⟨Nat.le_of_ble_eq_true rfl, Nat.le_of_ble_eq_true rfl⟩ ?_ (fun r u hp' => ?_)
  · intro E hx9
    rcases hx9 with ⟨rfl, x0⟩ | ⟨rfl, x0, x1⟩
    · refine ct1 htab  rfl (by decide) (hc.1.2.2.2.2 (.classLink RL 13 "java/lang/IndexOutOfBoundsException") (by decide +kernel)) (va_Nw.use (exB_on _ (show Cond.castable "java/lang/IndexOutOfBoundsException" "java/lang/IndexOutOfBoundsException" ∈ exB by decide +kernel)) (hXE.2.2.1 _ (show Cond.castable "java/lang/IndexOutOfBoundsException" "java/lang/IndexOutOfBoundsException" ∈ exB by decide +kernel))) (fun q => ?_)
      try dsimp only
      refine q_astore hc [(6, .ref q), (0, .ref (ad 0)), (1, .int (iZ x)), (2, .int (iZ y)), (3, .int (iZ (bZ d))), (4, .int (iZ what)), (5, .ref (ad 78))] dL_border_17 (by decide) rfl ?_
      refine q_iconstN hc 1 dL_border_19 rfl ?_
      refine V.widen (k := 2) (n := 12) (by decide) (by decide) ?_
      exact q_iretM (z := ((1 : Nat) : Int)) hc (Or.inr (Or.inl ⟨rfl, x0, rfl⟩)) hr hlk dL_border_20
    · refine ct2 htab (by decide) (hc.1.2.2.2.2 (.classLink RL 13 "java/lang/IndexOutOfBoundsException") (by decide +kernel)) (hXE.2.2.2.2 ("java/lang/IllegalArgumentException", "java/lang/IndexOutOfBoundsException") (by decide +kernel)) rfl (by decide) (hc.1.2.2.2.2 (.classLink RL 15 "java/lang/IllegalArgumentException") (by decide +kernel)) (va_Nw.use (exB_on _ (show Cond.castable "java/lang/IllegalArgumentException" "java/lang/IllegalArgumentException" ∈ exB by decide +kernel)) (hXE.2.2.1 _ (show Cond.castable "java/lang/IllegalArgumentException" "java/lang/IllegalArgumentException" ∈ exB by decide +kernel))) (fun q => ?_)
      try dsimp only
      refine q_astore hc [(6, .ref q), (0, .ref (ad 0)), (1, .int (iZ x)), (2, .int (iZ y)), (3, .int (iZ (bZ d))), (4, .int (iZ what)), (5, .ref (ad 78))] dL_border_21 (by decide) rfl ?_
      refine q_iconstN hc 2 dL_border_23 rfl ?_
      refine V.widen (k := 2) (n := 12) (by decide) (by decide) ?_
      exact q_iretM (z := ((2 : Nat) : Int)) hc (Or.inr (Or.inr (⟨rfl, x0, x1, rfl⟩))) hr hlk dL_border_24
  · obtain ⟨hr9, hx1, hx2, hw9⟩ := hp'; subst hw9; subst hr9
    refine q_i2lw hc dL_border_12 ?_
    refine q_last (j := 0) (x := (iZ ((bdV cap us hi (bIx w x y d) what.toNat : Nat) : Int)).toInt) hc 78 h78 rfl (by omega) (by omega) dL_border_13 (fun u3 hn' hf' => ?_)
    have hq4 : u3[78]? = some (ad 78, jA K 1 (va_up fo 0 ((iZ ((bdV cap us hi (bIx w x y d) what.toNat : Nat) : Int)).toInt))) := hn'
    have hq5 := (hf' 0 (by omega)).trans h0
    have hq6 := (hf' 1 (by omega)).trans h1
    have hq7 := (hf' 2 (by omega)).trans h2
    have hq8 := (hf' 3 (by omega)).trans h3
    have hq9 := (hf' 4 (by omega)).trans h4
    have fr10 := Fr.one hf'
    refine q_goto hc 25 dL_border_14 (by decide) ?_
    refine q_iconstN hc 0 dL_border_25 rfl ?_
    refine V.widen (k := 2) (n := 12) (by decide) (by decide) ?_
    exact q_iretM (z := ((0 : Nat) : Int)) hc (Or.inl ⟨rfl, hx1, hx2, hq4, (fr0.trans fr10 (fun _ _ => by omega))⟩) hr hlk dL_border_26

set_option maxRecDepth 100000 in
set_option maxHeartbeats 8000000 in
theorem c_L_line (l : Launch) (hl : l.stackTraces = false) (D : va_G) (K : Nat → ClassId) (ws : va_W) (ad : Nat → Nat) (nc rc : Nat) (d : Bool) (k what : Int) (w h n : Nat) (cap us : Nat → Nat) (pn : Nat → Nat) (rl : Nat → Int) (pi : Nat → Nat → Nat) (fo : Nat → Int) (h0 : ws[0]? = some (ad 0, xO ad nc rc)) (h1 : ws[1]? = some (ad 1, gO ad w h n)) (h2 : ws[2]? = some (ad 2, iN K (2 * n) cap)) (h3 : ws[3]? = some (ad 3, iN K (2 * n) us)) (h29 : ws[29]? = some (ad 29, nA K 12 (nF ad))) (hN : ∀ s, s < 12 → ws[30 + 3 * s]? = some (ad (30 + 3 * s), nO ad s (pn s) (rl s))) (hP : ∀ s, s < 12 → ws[31 + 3 * s]? = some (ad (31 + 3 * s), iN K 5 (pi s))) (h78 : ws[78]? = some (ad 78, jA K 1 fo)) (hk : -2147483648 ≤ k ∧ k < 2147483648) (hwhat : -2147483648 ≤ what ∧ what < 2147483648) (hn : n ≤ 64) (hw : 0 < w ∧ w ≤ 8 ∧ h ≤ 8) (hnc : nc ≤ 12) (hxy : ∀ x y, x < w → y < h → x + w * y < n) (hpn : ∀ j, j < nc → pn j ≤ 5) (hpif : ∀ j k, j < nc → pi j k < 64) : MLi l yL_line wsL_line ({ frames := 7, cells := 1, slots := 6, locals := 113 }) D K ws [.ref (ad 0), .int (iZ (bZ d)), .int (iZ k), .int (iZ what), .ref (ad 78)] 1 (fun r u => ((r = iZ ((0 : Nat) : Int)) ∧ ((0 ≤ k ∧ k < (lnK w h d : Int) - 1)) ∧ (0 ≤ what ∧ what < 3) ∧ (u[78]? = some (ad 78, jA K 1 (va_up fo 0 ((iZ ((lnV w h nc cap us pn pi d k.toNat what.toNat : Nat) : Int)).toInt)))) ∧ (Fr (fun j => j = 78) ws u)) ∨ ((r = iZ ((1 : Nat) : Int)) ∧ (¬ (0 ≤ k ∧ k < (lnK w h d : Int) - 1)) ∧ (ws = u)) ∨ ((r = iZ ((2 : Nat) : Int)) ∧ ((0 ≤ k ∧ k < (lnK w h d : Int) - 1)) ∧ (¬ (0 ≤ what ∧ what < 3)) ∧ (ws = u))) := by
  refine q_entL RL [(0, .ref (ad 0)), (1, .int (iZ (bZ d))), (2, .int (iZ k)), (3, .int (iZ what)), (4, .ref (ad 78))] (by decide) rfl rfl (Nat.le_of_ble_eq_true rfl) rfl ?_
  intro p e s m args below meth c hc hXE htab hr hlk
  have fr0 : Fr (fun j => j = 78) ws ws := Fr.rfl
  refine q_aload hc 4 dL_line_0 rfl ?_
  refine q_iconstN hc 0 dL_line_2 rfl ?_
  refine q_aload_n hc 0 dL_line_3 rfl ?_
  refine q_iload_n hc 1 dL_line_4 rfl ?_
  refine q_iload_n hc 2 dL_line_5 rfl ?_
  refine q_iload_n hc 3 dL_line_6 rfl ?_
  refine q_callCi (As := [.int (iZ (bZ d)), .int (iZ k), .int (iZ what)]) (rest := [.int (iZ ((0 : Nat) : Int)), .ref (ad 78)]) hc hXE (c_X4_line l hl D K ws ad nc rc d k what w h n cap us pn rl pi h0 h1 h2 h3 h29 hN hP hk hwhat hn hw hnc hxy hpn hpif) (cwV 3 hc.1.2.2.2.2 gL_line_X4_line rfl rfl rfl (by decide +kernel) ⟨Nat.le_of_ble_eq_true rfl, Nat.le_of_ble_eq_true rfl⟩) 0 h0 rfl rfl rfl (by simp [Value.category]) dL_line_7 ⟨Nat.le_of_ble_eq_true rfl, Nat.le_of_ble_eq_true rfl⟩ ?_ (fun r u hp' => ?_)
  · intro E hx9
    rcases hx9 with ⟨rfl, x0⟩ | ⟨rfl, x0, x1⟩
    · refine ct1 htab  rfl (by decide) (hc.1.2.2.2.2 (.classLink RL 13 "java/lang/IndexOutOfBoundsException") (by decide +kernel)) (va_Nw.use (exB_on _ (show Cond.castable "java/lang/IndexOutOfBoundsException" "java/lang/IndexOutOfBoundsException" ∈ exB by decide +kernel)) (hXE.2.2.1 _ (show Cond.castable "java/lang/IndexOutOfBoundsException" "java/lang/IndexOutOfBoundsException" ∈ exB by decide +kernel))) (fun q => ?_)
      try dsimp only
      refine q_astore hc [(5, .ref q), (0, .ref (ad 0)), (1, .int (iZ (bZ d))), (2, .int (iZ k)), (3, .int (iZ what)), (4, .ref (ad 78))] dL_line_15 (by decide) rfl ?_
      refine q_iconstN hc 1 dL_line_17 rfl ?_
      refine V.widen (k := 1) (n := 6) (by decide) (by decide) ?_
      exact q_iretM (z := ((1 : Nat) : Int)) hc (Or.inr (Or.inl ⟨rfl, x0, rfl⟩)) hr hlk dL_line_18
    · refine ct2 htab (by decide) (hc.1.2.2.2.2 (.classLink RL 13 "java/lang/IndexOutOfBoundsException") (by decide +kernel)) (hXE.2.2.2.2 ("java/lang/IllegalArgumentException", "java/lang/IndexOutOfBoundsException") (by decide +kernel)) rfl (by decide) (hc.1.2.2.2.2 (.classLink RL 15 "java/lang/IllegalArgumentException") (by decide +kernel)) (va_Nw.use (exB_on _ (show Cond.castable "java/lang/IllegalArgumentException" "java/lang/IllegalArgumentException" ∈ exB by decide +kernel)) (hXE.2.2.1 _ (show Cond.castable "java/lang/IllegalArgumentException" "java/lang/IllegalArgumentException" ∈ exB by decide +kernel))) (fun q => ?_)
      try dsimp only
      refine q_astore hc [(5, .ref q), (0, .ref (ad 0)), (1, .int (iZ (bZ d))), (2, .int (iZ k)), (3, .int (iZ what)), (4, .ref (ad 78))] dL_line_19 (by decide) rfl ?_
      refine q_iconstN hc 2 dL_line_21 rfl ?_
      refine V.widen (k := 1) (n := 6) (by decide) (by decide) ?_
      exact q_iretM (z := ((2 : Nat) : Int)) hc (Or.inr (Or.inr (⟨rfl, x0, x1, rfl⟩))) hr hlk dL_line_22
  · obtain ⟨hr9, hx1, hx2, hw9⟩ := hp'; subst hw9; subst hr9
    refine q_i2lw hc dL_line_10 ?_
    refine q_last (j := 0) (x := (iZ ((lnV w h nc cap us pn pi d k.toNat what.toNat : Nat) : Int)).toInt) hc 78 h78 rfl (by omega) (by omega) dL_line_11 (fun u3 hn' hf' => ?_)
    have hq4 : u3[78]? = some (ad 78, jA K 1 (va_up fo 0 ((iZ ((lnV w h nc cap us pn pi d k.toNat what.toNat : Nat) : Int)).toInt))) := hn'
    have hq5 := (hf' 0 (by omega)).trans h0
    have hq6 := (hf' 1 (by omega)).trans h1
    have hq7 := (hf' 2 (by omega)).trans h2
    have hq8 := (hf' 3 (by omega)).trans h3
    have hq9 := (hf' 29 (by omega)).trans h29
    have hq10 : ∀ s, s < 12 → u3[30 + 3 * s]? = some (ad (30 + 3 * s), nO ad s (pn s) (rl s)) := fun s hs => (hf' (30 + 3 * s) (by omega)).trans (hN s hs)
    have hq11 : ∀ s, s < 12 → u3[31 + 3 * s]? = some (ad (31 + 3 * s), iN K 5 (pi s)) := fun s hs => (hf' (31 + 3 * s) (by omega)).trans (hP s hs)
    have fr12 := Fr.one hf'
    refine q_goto hc 23 dL_line_12 (by decide) ?_
    refine q_iconstN hc 0 dL_line_23 rfl ?_
    refine V.widen (k := 1) (n := 6) (by decide) (by decide) ?_
    exact q_iretM (z := ((0 : Nat) : Int)) hc (Or.inl ⟨rfl, hx1, hx2, hq4, (fr0.trans fr12 (fun _ _ => by omega))⟩) hr hlk dL_line_24

set_option maxRecDepth 100000 in
set_option maxHeartbeats 8000000 in
theorem c_L_told (l : Launch) (hl : l.stackTraces = false) (D : va_G) (K : Nat → ClassId) (ws : va_W) (ad : Nat → Nat) (nc rc : Nat) (what : Int) (w h n : Nat) (cap us : Nat → Nat) (pn : Nat → Nat) (rl : Nat → Int) (fo : Nat → Int) (h0 : ws[0]? = some (ad 0, xO ad nc rc)) (h1 : ws[1]? = some (ad 1, gO ad w h n)) (h2 : ws[2]? = some (ad 2, iN K (2 * n) cap)) (h3 : ws[3]? = some (ad 3, iN K (2 * n) us)) (h29 : ws[29]? = some (ad 29, nA K 12 (nF ad))) (hN : ∀ s, s < 12 → ws[30 + 3 * s]? = some (ad (30 + 3 * s), nO ad s (pn s) (rl s))) (h78 : ws[78]? = some (ad 78, jA K 1 fo)) (hwhat : -2147483648 ≤ what ∧ what < 2147483648) (hn : n ≤ 64) (hnc : nc ≤ 12) (hcap : ∀ k, k < 2 * n → cap k ≤ 20) (hus : ∀ k, k < 2 * n → us k ≤ 12) (hrl : ∀ j, j < nc → -1 ≤ rl j ∧ rl j ≤ 128) : MLi l yL_told wsL_told ({ frames := 7, cells := 1, slots := 6, locals := 111 }) D K ws [.ref (ad 0), .int (iZ what), .ref (ad 78)] 1 (fun r u => ((r = iZ ((0 : Nat) : Int)) ∧ (0 ≤ what ∧ what < 8) ∧ (u[78]? = some (ad 78, jA K 1 (va_up fo 0 ((iZ ((tdV w h n nc rc cap us rl what.toNat : Nat) : Int)).toInt)))) ∧ (Fr (fun j => j = 78) ws u)) ∨ ((r = iZ ((1 : Nat) : Int)) ∧ (¬ (0 ≤ what ∧ what < 8)) ∧ (ws = u))) := by
  refine q_entL RL [(0, .ref (ad 0)), (1, .int (iZ what)), (2, .ref (ad 78))] (by decide) rfl rfl (Nat.le_of_ble_eq_true rfl) rfl ?_
  intro p e s m args below meth c hc hXE htab hr hlk
  have fr0 : Fr (fun j => j = 78) ws ws := Fr.rfl
  refine q_aload_n hc 2 dL_told_0 rfl ?_
  refine q_iconstN hc 0 dL_told_1 rfl ?_
  refine q_aload_n hc 0 dL_told_2 rfl ?_
  refine q_iload_n hc 1 dL_told_3 rfl ?_
  refine q_callCi (As := [.int (iZ what)]) (rest := [.int (iZ ((0 : Nat) : Int)), .ref (ad 78)]) hc hXE (c_X4_told l hl D K ws ad nc rc what w h n cap us pn rl h0 h1 h2 h3 h29 hN hwhat hn hnc hcap hus hrl) (cwV 1 hc.1.2.2.2.2 gL_told_X4_told rfl rfl rfl (by decide +kernel) ⟨Nat.le_of_ble_eq_true rfl, Nat.le_of_ble_eq_true rfl⟩) 0 h0 rfl rfl rfl (by simp [Value.category]) dL_told_4 ⟨Nat.le_of_ble_eq_true rfl, Nat.le_of_ble_eq_true rfl⟩ ?_ (fun r u hp' => ?_)
  · intro E hx9
    rcases hx9 with ⟨rfl, x0⟩
    refine ct1 htab  rfl (by decide) (hc.1.2.2.2.2 (.classLink RL 15 "java/lang/IllegalArgumentException") (by decide +kernel)) (va_Nw.use (exB_on _ (show Cond.castable "java/lang/IllegalArgumentException" "java/lang/IllegalArgumentException" ∈ exB by decide +kernel)) (hXE.2.2.1 _ (show Cond.castable "java/lang/IllegalArgumentException" "java/lang/IllegalArgumentException" ∈ exB by decide +kernel))) (fun q => ?_)
    try dsimp only
    refine q_astore_n hc [(3, .ref q), (0, .ref (ad 0)), (1, .int (iZ what)), (2, .ref (ad 78))] dL_told_12 rfl (by decide) rfl ?_
    refine q_iconstN hc 1 dL_told_13 rfl ?_
    refine V.widen (k := 1) (n := 6) (by decide) (by decide) ?_
    exact q_iretM (z := ((1 : Nat) : Int)) hc (Or.inr (⟨rfl, x0, rfl⟩)) hr hlk dL_told_14
  · obtain ⟨hr9, hx1, hw9⟩ := hp'; subst hw9; subst hr9
    refine q_i2lw hc dL_told_7 ?_
    refine q_last (j := 0) (x := (iZ ((tdV w h n nc rc cap us rl what.toNat : Nat) : Int)).toInt) hc 78 h78 rfl (by omega) (by omega) dL_told_8 (fun u2 hn' hf' => ?_)
    have hq3 : u2[78]? = some (ad 78, jA K 1 (va_up fo 0 ((iZ ((tdV w h n nc rc cap us rl what.toNat : Nat) : Int)).toInt))) := hn'
    have hq4 := (hf' 0 (by omega)).trans h0
    have hq5 := (hf' 1 (by omega)).trans h1
    have hq6 := (hf' 2 (by omega)).trans h2
    have hq7 := (hf' 3 (by omega)).trans h3
    have hq8 := (hf' 29 (by omega)).trans h29
    have hq9 : ∀ s, s < 12 → u2[30 + 3 * s]? = some (ad (30 + 3 * s), nO ad s (pn s) (rl s)) := fun s hs => (hf' (30 + 3 * s) (by omega)).trans (hN s hs)
    have fr10 := Fr.one hf'
    refine q_goto hc 15 dL_told_9 (by decide) ?_
    refine q_iconstN hc 0 dL_told_15 rfl ?_
    refine V.widen (k := 1) (n := 6) (by decide) (by decide) ?_
    exact q_iretM (z := ((0 : Nat) : Int)) hc (Or.inl ⟨rfl, hx1, hq3, (fr0.trans fr10 (fun _ _ => by omega))⟩) hr hlk dL_told_16
