
set_option maxRecDepth 100000 in
set_option maxHeartbeats 4000000 in
theorem c_X1_takeCosts (l : Launch) (D : va_G) (K : Nat → ClassId) (ws : va_W) (ad : Nat → Nat) (w h n : Nat) (cap us hi co : Nat → Nat) (h1 : ws[1]? = some (ad 1, gO ad w h n)) (h2 : ws[2]? = some (ad 2, iN K (2 * n) cap)) (h3 : ws[3]? = some (ad 3, iN K (2 * n) us)) (h4 : ws[4]? = some (ad 4, iN K (2 * n) hi)) (h7 : ws[7]? = some (ad 7, lO ad)) (h8 : ws[8]? = some (ad 8, iN K (2 * n) co)) (hn : n ≤ 64) (hcap : ∀ k, k < 2 * n → cap k ≤ 20) (hus : ∀ k, k < 2 * n → us k ≤ 12) (hhi : ∀ k, k < 2 * n → hi k ≤ 5120) : MMv l yX1_takeCosts wsX1_takeCosts ({ frames := 2, cells := 0, slots := 0, locals := 43 }) D K ws [.ref (ad 7)] (fun u => (u[8]? = some (ad 8, iN K (2 * n) (coF cap us hi))) ∧ (Fr (fun j => j = 8) ws u)) := by
  refine q_entMv RX1 [(0, .ref (ad 7))] (by decide) rfl rfl (Nat.le_of_ble_eq_true rfl) rfl ?_
  intro p e s m args below meth c hc hr hlk
  have i1 : ∀ w ∈ u_ws RX1 TX1 4, w ∈ wsX1_takeCosts := by decide +kernel
  have f9 := hc.1.2.2.2.2 (.fieldLink RX1 9 "GlobalRoutes$Leader" "grid" "LGlobalRoutes$Grid;") (by decide +kernel)
  have i0 : ∀ w ∈ u_ws RX0 TX0 9, w ∈ wsX1_takeCosts := by decide +kernel
  have f15 := hc.1.2.2.2.2 (.fieldLink RX1 15 "GlobalRoutes$Grid" "borders" "I") (by decide +kernel)
  have f21 := hc.1.2.2.2.2 (.fieldLink RX1 21 "GlobalRoutes$Leader" "costs" "[I") (by decide +kernel)
  have fr0 : Fr (fun j => j = 8) ws ws := Fr.rfl
  refine q_iconstN hc 0 dX1_takeCosts_0 rfl ?_
  refine q_istore_n hc [(1, .int (iZ ((0 : Nat) : Int))), (0, .ref (ad 7))] dX1_takeCosts_1 rfl (by decide) rfl ?_
  refine V.sub [1, 0] rfl ?_
  refine V.loop (α := Nat × (Nat → Nat)) (fun x => 2 * n - x.1) (fun x u => (x.1 ≤ 2 * n) ∧ (∀ k, x.2 k = if k < x.1 then (coF cap us hi) k else co k) ∧ (u[8]? = some (ad 8, iN K (2 * n) x.2)) ∧ (Fr (fun j => j = 8) ws u)) (fun x => [(0, .ref (ad 7)), (1, .int (iZ ((x.1 : Nat) : Int)))]) (0, co) ⟨(Nat.zero_le _), (fun k => by simp), (h8), (Fr.rfl)⟩ rfl ?_
  intro x ih2 u1 hI
  obtain ⟨i, f⟩ := x
  try dsimp only at ih2 hI ⊢
  obtain ⟨hi0, hf, hq2, fr3⟩ := hI
  have hq4 := (fr3.at 1 (by omega)).trans h1
  have hq5 := (fr3.at 2 (by omega)).trans h2
  have hq6 := (fr3.at 3 (by omega)).trans h3
  have hq7 := (fr3.at 4 (by omega)).trans h4
  have hq8 := (fr3.at 7 (by omega)).trans h7
  refine q_iload_n hc 1 dX1_takeCosts_2 rfl ?_
  refine q_aload_n hc 0 dX1_takeCosts_3 rfl ?_
  refine q_get hc 7 0 i1 hq8 rfl (by decide) f9 rfl rfl dX1_takeCosts_4 ?_
  refine q_get hc 1 3 i0 hq4 rfl (by decide) f15 rfl rfl dX1_takeCosts_7 ?_
  refine q_icmpN_ge hc 33 dX1_takeCosts_10 (by decide) (by omega) (by omega) (fun c9 => ?_) (fun c9 => ?_)
  · refine q_norm_iN (g := coF cap us hi) hc 8 hq2 (fun k hk => by rw [hf k, if_pos (by omega)]) (fun u10 hn' hf' => ?_)
    have hq11 : u10[8]? = some (ad 8, iN K (2 * n) (coF cap us hi)) := hn'
    have hq12 := (hf' 1 (by omega)).trans hq4
    have hq13 := (hf' 2 (by omega)).trans hq5
    have hq14 := (hf' 3 (by omega)).trans hq6
    have hq15 := (hf' 4 (by omega)).trans hq7
    have hq16 := (hf' 7 (by omega)).trans hq8
    have fr17 := Fr.one hf'
    exact q_vretM hc (⟨hq11, ((fr0.trans fr3 (fun _ _ => by omega)).trans fr17 (fun _ _ => by omega))⟩) hr hlk dX1_takeCosts_33
  · refine q_aload_n hc 0 dX1_takeCosts_13 rfl ?_
    refine q_get hc 7 1 i1 hq8 rfl (by decide) f21 rfl rfl dX1_takeCosts_14 ?_
    refine q_iload_n hc 1 dX1_takeCosts_17 rfl ?_
    refine q_aload_n hc 0 dX1_takeCosts_18 rfl ?_
    refine q_get hc 7 0 i1 hq8 rfl (by decide) f9 rfl rfl dX1_takeCosts_19 ?_
    refine q_iload_n hc 1 dX1_takeCosts_22 rfl ?_
    refine q_callPn (As := [.int (iZ ((i : Nat) : Int))]) (rest := [.int (iZ ((i : Nat) : Int)), .ref (ad 8)]) hc (c_X0_costOfOneMore l D K u1 ad i w h n cap us hi hq4 hq5 hq6 hq7 (by omega) hn hcap hus hhi) (cwV 1 hc.1.2.2.2.2 gX1_takeCosts_X0_costOfOneMore rfl rfl rfl (by decide +kernel) ⟨Nat.le_of_ble_eq_true rfl, Nat.le_of_ble_eq_true rfl⟩) 1 hq4 rfl rfl rfl (by simp [Value.category]) dX1_takeCosts_23 ⟨Nat.zero_le _, Nat.zero_le _⟩ ?_
    refine V.topi (show _ = (((coF cap us hi) i : Nat) : Int) from rfl) ?_
    refine q_iastN (j := i) (x := (coF cap us hi) i) hc 8 hq2 rfl (by omega) (by omega) dX1_takeCosts_26 (fun u20 hn' hf' => ?_)
    have hq21 : u20[8]? = some (ad 8, iN K (2 * n) (va_up f i ((coF cap us hi) i))) := hn'
    have hq22 := (hf' 1 (by omega)).trans hq4
    have hq23 := (hf' 2 (by omega)).trans hq5
    have hq24 := (hf' 3 (by omega)).trans hq6
    have hq25 := (hf' 4 (by omega)).trans hq7
    have hq26 := (hf' 7 (by omega)).trans hq8
    have fr27 := Fr.one hf'
    refine q_iincN (q := 1) hc 1 [(1, .int (iZ ((i + 1 : Nat) : Int))), (0, .ref (ad 7))] dX1_takeCosts_27 rfl rfl (by decide) rfl ?_
    refine q_goto hc 2 dX1_takeCosts_30 (by decide) ?_
    refine V.sub [1, 0] rfl ?_
    exact ih2 (i + 1, va_up f i ((coF cap us hi) i)) _ (by omega) ⟨(by omega), (upd_hf hf), (hq21), ((fr3.trans fr27 (fun _ _ => by omega)))⟩

set_option maxRecDepth 100000 in
set_option maxHeartbeats 4000000 in
theorem c_X1_startTree (l : Launch) (D : va_G) (K : Nat → ClassId) (ws : va_W) (ad : Nat → Nat) (w h n : Nat) (q : Nat) (di : Nat → Nat) (tr : Nat → Bool) (h1 : ws[1]? = some (ad 1, gO ad w h n)) (h7 : ws[7]? = some (ad 7, lO ad)) (h9 : ws[9]? = some (ad 9, iN K n di)) (h10 : ws[10]? = some (ad 10, zA K n tr)) (hn : n ≤ 64) (hq : q < n) : MMv l yX1_startTree wsX1_startTree ({ frames := 0, cells := 0, slots := 0, locals := 0 }) D K ws [.ref (ad 7), .int (iZ ((q : Nat) : Int))] (fun u => (u[10]? = some (ad 10, zA K n (trS q))) ∧ (u[9]? = some (ad 9, iN K n (diS q))) ∧ (Fr (fun j => j = 10 ∨ j = 9) ws u)) := by
  refine q_entMv RX1 [(0, .ref (ad 7)), (1, .int (iZ ((q : Nat) : Int)))] (by decide) rfl rfl (Nat.le_of_ble_eq_true rfl) rfl ?_
  intro p e s m args below meth c hc hr hlk
  have i1 : ∀ w ∈ u_ws RX1 TX1 4, w ∈ wsX1_startTree := by decide +kernel
  have f9 := hc.1.2.2.2.2 (.fieldLink RX1 9 "GlobalRoutes$Leader" "grid" "LGlobalRoutes$Grid;") (by decide +kernel)
  have i0 : ∀ w ∈ u_ws RX0 TX0 9, w ∈ wsX1_startTree := by decide +kernel
  have f25 := hc.1.2.2.2.2 (.fieldLink RX1 25 "GlobalRoutes$Grid" "cells" "I") (by decide +kernel)
  have f31 := hc.1.2.2.2.2 (.fieldLink RX1 31 "GlobalRoutes$Leader" "tree" "[Z") (by decide +kernel)
  have f28 := hc.1.2.2.2.2 (.fieldLink RX1 28 "GlobalRoutes$Leader" "distances" "[I") (by decide +kernel)
  have k72 : (Jvm.Cond.constant RX1 72 (iZ ((1000000000 : Nat) : Int))).before args s = true := hc.1.2.2.2.2 (.constant RX1 72 (1000000000)) (by decide +kernel)
  have fr0 : Fr (fun j => j = 10 ∨ j = 9) ws ws := Fr.rfl
  refine q_iconstN hc 0 dX1_startTree_0 rfl ?_
  refine q_istore_n hc [(2, .int (iZ ((0 : Nat) : Int))), (0, .ref (ad 7)), (1, .int (iZ ((q : Nat) : Int)))] dX1_startTree_1 rfl (by decide) rfl ?_
  refine V.sub [1, 2, 0] rfl ?_
  refine V.loop (α := Nat × (Nat → Bool) × (Nat → Nat)) (fun x => n - x.1) (fun x u => (x.1 ≤ n) ∧ (∀ k, x.2.1 k = if k < x.1 then false else tr k) ∧ (∀ k, x.2.2 k = if k < x.1 then 1000000000 else di k) ∧ (u[10]? = some (ad 10, zA K n x.2.1)) ∧ (u[9]? = some (ad 9, iN K n x.2.2)) ∧ (Fr (fun j => j = 10 ∨ j = 9) ws u)) (fun x => [(0, .ref (ad 7)), (1, .int (iZ ((q : Nat) : Int))), (2, .int (iZ ((x.1 : Nat) : Int)))]) (0, tr, di) ⟨(Nat.zero_le _), (fun k => by simp), (fun k => by simp), (h10), (h9), (Fr.rfl)⟩ rfl ?_
  intro x ih2 u1 hI
  obtain ⟨i, f, f2⟩ := x
  try dsimp only at ih2 hI ⊢
  obtain ⟨hi0, hf, hf2, hq2, hq3, fr4⟩ := hI
  have hq5 := (fr4.at 1 (by omega)).trans h1
  have hq6 := (fr4.at 7 (by omega)).trans h7
  refine q_iload_n hc 2 dX1_startTree_2 rfl ?_
  refine q_aload_n hc 0 dX1_startTree_3 rfl ?_
  refine q_get hc 7 0 i1 hq6 rfl (by decide) f9 rfl rfl dX1_startTree_4 ?_
  refine q_get hc 1 2 i0 hq5 rfl (by decide) f25 rfl rfl dX1_startTree_7 ?_
  refine q_icmpN_ge hc 34 dX1_startTree_10 (by decide) (by omega) (by omega) (fun c7 => ?_) (fun c7 => ?_)
  · refine q_aload_n hc 0 dX1_startTree_34 rfl ?_
    refine q_get hc 7 3 i1 hq6 rfl (by decide) f31 rfl rfl dX1_startTree_35 ?_
    refine q_iload_n hc 1 dX1_startTree_38 rfl ?_
    refine q_iconstN hc 1 dX1_startTree_39 rfl ?_
    refine q_zast (j := q) (x := true) hc 10 hq2 rfl (by omega) (by omega) dX1_startTree_40 (fun u8 hn' hf' => ?_)
    have hq9 : u8[10]? = some (ad 10, zA K n (va_up f q true)) := hn'
    have hq10 := (hf' 1 (by omega)).trans hq5
    have hq11 := (hf' 7 (by omega)).trans hq6
    have hq12 := (hf' 9 (by omega)).trans hq3
    have fr13 := Fr.one hf'
    refine q_aload_n hc 0 dX1_startTree_41 rfl ?_
    refine q_get hc 7 2 i1 hq11 rfl (by decide) f28 rfl rfl dX1_startTree_42 ?_
    refine q_iload_n hc 1 dX1_startTree_45 rfl ?_
    refine q_iconstN hc 0 dX1_startTree_46 rfl ?_
    refine q_iastN (j := q) (x := 0) hc 9 hq12 rfl (by omega) (by omega) dX1_startTree_47 (fun u14 hn' hf' => ?_)
    have hq15 : u14[9]? = some (ad 9, iN K n (va_up f2 q 0)) := hn'
    have hq16 := (hf' 1 (by omega)).trans hq10
    have hq17 := (hf' 7 (by omega)).trans hq11
    have hq18 := (hf' 10 (by omega)).trans hq9
    have fr19 := Fr.one hf'
    refine q_norm_zA (g := trS q) hc 10 hq18 (fun k hk => by unfold va_up trS; rw [hf k, if_pos (show k < i by omega)]; by_cases h : k = q <;> simp [h]) (fun u20 hn' hf' => ?_)
    have hq21 : u20[10]? = some (ad 10, zA K n (trS q)) := hn'
    have hq22 := (hf' 1 (by omega)).trans hq16
    have hq23 := (hf' 7 (by omega)).trans hq17
    have hq24 := (hf' 9 (by omega)).trans hq15
    have fr25 := Fr.one hf'
    refine q_norm_iN (g := diS q) hc 9 hq24 (fun k hk => by unfold va_up diS; rw [hf2 k, if_pos (show k < i by omega)]) (fun u26 hn' hf' => ?_)
    have hq27 : u26[9]? = some (ad 9, iN K n (diS q)) := hn'
    have hq28 := (hf' 1 (by omega)).trans hq22
    have hq29 := (hf' 7 (by omega)).trans hq23
    have hq30 := (hf' 10 (by omega)).trans hq21
    have fr31 := Fr.one hf'
    exact q_vretM hc (⟨hq30, hq27, (((((fr0.trans fr4 (fun _ _ => by omega)).trans fr13 (fun _ _ => by omega)).trans fr19 (fun _ _ => by omega)).trans fr25 (fun _ _ => by omega)).trans fr31 (fun _ _ => by omega))⟩) hr hlk dX1_startTree_48
  · refine q_aload_n hc 0 dX1_startTree_13 rfl ?_
    refine q_get hc 7 3 i1 hq6 rfl (by decide) f31 rfl rfl dX1_startTree_14 ?_
    refine q_iload_n hc 2 dX1_startTree_17 rfl ?_
    refine q_iconstN hc 0 dX1_startTree_18 rfl ?_
    refine q_zast (j := i) (x := false) hc 10 hq2 rfl (by omega) (by omega) dX1_startTree_19 (fun u32 hn' hf' => ?_)
    have hq33 : u32[10]? = some (ad 10, zA K n (va_up f i false)) := hn'
    have hq34 := (hf' 1 (by omega)).trans hq5
    have hq35 := (hf' 7 (by omega)).trans hq6
    have hq36 := (hf' 9 (by omega)).trans hq3
    have fr37 := Fr.one hf'
    refine q_aload_n hc 0 dX1_startTree_20 rfl ?_
    refine q_get hc 7 2 i1 hq35 rfl (by decide) f28 rfl rfl dX1_startTree_21 ?_
    refine q_iload_n hc 2 dX1_startTree_24 rfl ?_
    refine q_ldc (z := ((1000000000 : Nat) : Int)) hc dX1_startTree_25 k72 ?_
    refine q_iastN (j := i) (x := 1000000000) hc 9 hq36 rfl (by omega) (by omega) dX1_startTree_27 (fun u38 hn' hf' => ?_)
    have hq39 : u38[9]? = some (ad 9, iN K n (va_up f2 i 1000000000)) := hn'
    have hq40 := (hf' 1 (by omega)).trans hq34
    have hq41 := (hf' 7 (by omega)).trans hq35
    have hq42 := (hf' 10 (by omega)).trans hq33
    have fr43 := Fr.one hf'
    refine q_iincN (q := 2) hc 1 [(2, .int (iZ ((i + 1 : Nat) : Int))), (0, .ref (ad 7)), (1, .int (iZ ((q : Nat) : Int)))] dX1_startTree_28 rfl rfl (by decide) rfl ?_
    refine q_goto hc 2 dX1_startTree_31 (by decide) ?_
    refine V.sub [1, 2, 0] rfl ?_
    exact ih2 (i + 1, va_up f i false, va_up f2 i 1000000000) _ (by omega) ⟨(by omega), (upd_hf (g := fun _ => false) hf), (upd_hf (g := fun _ => 1000000000) hf2), (hq42), (hq39), (((fr4.trans fr37 (fun _ _ => by omega)).trans fr43 (fun _ _ => by omega)))⟩

set_option maxRecDepth 100000 in
set_option maxHeartbeats 4000000 in
theorem c_X1_distanceThrough (l : Launch) (D : va_G) (K : Nat → ClassId) (ws : va_W) (ad : Nat → Nat) (k u b : Nat) (w h n : Nat) (di co : Nat → Nat) (nb bt : Nat → Option Nat) (h1 : ws[1]? = some (ad 1, gO ad w h n)) (h5 : ws[5]? = some (ad 5, iA K (4 * n) (fun k => oZ (nb k)))) (h6 : ws[6]? = some (ad 6, iA K (4 * n) (fun k => oZ (bt k)))) (h7 : ws[7]? = some (ad 7, lO ad)) (h8 : ws[8]? = some (ad 8, iN K (2 * n) co)) (h9 : ws[9]? = some (ad 9, iN K n di)) (hn : n ≤ 64) (hk : k < 4 * n) (hu : nb k = some u) (hb : bt k = some b) (hu1 : u < n) (hb1 : b < 2 * n) : MPi l yX1_distanceThrough wsX1_distanceThrough ({ frames := 0, cells := 0, slots := 0, locals := 0 }) D K ws [.ref (ad 7), .int (iZ ((k : Nat) : Int))] (fun r => r = (iZ ((di u + co b : Nat) : Int))) := by
  refine q_entPi RX1 [(0, .ref (ad 7)), (1, .int (iZ ((k : Nat) : Int)))] (by decide) rfl rfl (Nat.le_of_ble_eq_true rfl) rfl ?_
  intro p e s m args below meth c hc hr hlk
  have i1 : ∀ w ∈ u_ws RX1 TX1 4, w ∈ wsX1_distanceThrough := by decide +kernel
  have f28 := hc.1.2.2.2.2 (.fieldLink RX1 28 "GlobalRoutes$Leader" "distances" "[I") (by decide +kernel)
  have f9 := hc.1.2.2.2.2 (.fieldLink RX1 9 "GlobalRoutes$Leader" "grid" "LGlobalRoutes$Grid;") (by decide +kernel)
  have i0 : ∀ w ∈ u_ws RX0 TX0 9, w ∈ wsX1_distanceThrough := by decide +kernel
  have f77 := hc.1.2.2.2.2 (.fieldLink RX1 77 "GlobalRoutes$Grid" "neighbours" "[I") (by decide +kernel)
  have f21 := hc.1.2.2.2.2 (.fieldLink RX1 21 "GlobalRoutes$Leader" "costs" "[I") (by decide +kernel)
  have f89 := hc.1.2.2.2.2 (.fieldLink RX1 89 "GlobalRoutes$Grid" "bordersTo" "[I") (by decide +kernel)
  refine q_aload_n hc 0 dX1_distanceThrough_0 rfl ?_
  refine q_get hc 7 2 i1 h7 rfl (by decide) f28 rfl rfl dX1_distanceThrough_1 ?_
  refine q_aload_n hc 0 dX1_distanceThrough_4 rfl ?_
  refine q_get hc 7 0 i1 h7 rfl (by decide) f9 rfl rfl dX1_distanceThrough_5 ?_
  refine q_get hc 1 7 i0 h1 rfl (by decide) f77 rfl rfl dX1_distanceThrough_8 ?_
  refine q_iload_n hc 1 dX1_distanceThrough_11 rfl ?_
  refine q_iald (j := k) hc 5 h5 rfl (by omega) (by omega) dX1_distanceThrough_12 ?_
  refine V.topi (show _ = ((u : Nat) : Int) from by show oZ (nb k) = _; rw [hu]; rfl) ?_
  refine q_ialdN (j := u) hc 9 h9 rfl (by omega) (by omega) dX1_distanceThrough_13 ?_
  refine q_aload_n hc 0 dX1_distanceThrough_14 rfl ?_
  refine q_get hc 7 1 i1 h7 rfl (by decide) f21 rfl rfl dX1_distanceThrough_15 ?_
  refine q_aload_n hc 0 dX1_distanceThrough_18 rfl ?_
  refine q_get hc 7 0 i1 h7 rfl (by decide) f9 rfl rfl dX1_distanceThrough_19 ?_
  refine q_get hc 1 8 i0 h1 rfl (by decide) f89 rfl rfl dX1_distanceThrough_22 ?_
  refine q_iload_n hc 1 dX1_distanceThrough_25 rfl ?_
  refine q_iald (j := k) hc 6 h6 rfl (by omega) (by omega) dX1_distanceThrough_26 ?_
  refine V.topi (show _ = ((b : Nat) : Int) from by show oZ (bt k) = _; rw [hb]; rfl) ?_
  refine q_ialdN (j := b) hc 8 h8 rfl (by omega) (by omega) dX1_distanceThrough_27 ?_
  refine q_iaddN hc dX1_distanceThrough_28 ?_
  exact q_iretP (z := ((di u + (co b) : Nat) : Int)) hc (rfl) hr hlk dX1_distanceThrough_29

set_option maxRecDepth 100000 in
set_option maxHeartbeats 4000000 in
theorem c_X1_lowerDistance (l : Launch) (D : va_G) (K : Nat → ClassId) (ws : va_W) (ad : Nat → Nat) (q : Nat) (w h n : Nat) (di co : Nat → Nat) (nb bt : Nat → Option Nat) (h1 : ws[1]? = some (ad 1, gO ad w h n)) (h5 : ws[5]? = some (ad 5, iA K (4 * n) (fun k => oZ (nb k)))) (h6 : ws[6]? = some (ad 6, iA K (4 * n) (fun k => oZ (bt k)))) (h7 : ws[7]? = some (ad 7, lO ad)) (h8 : ws[8]? = some (ad 8, iN K (2 * n) co)) (h9 : ws[9]? = some (ad 9, iN K n di)) (hn : n ≤ 64) (hq : q < n) (hNB : NB n nb bt) (hdi : ∀ k, di k ≤ 1000000000) (hco : ∀ k, k < 2 * n → co k ≤ 6000) : MMi l yX1_lowerDistance wsX1_lowerDistance ({ frames := 1, cells := 0, slots := 0, locals := 21 }) D K ws [.ref (ad 7), .int (iZ ((q : Nat) : Int))] (fun r u => (r = (iZ (bZ (decide (bst nb bt di co q 4 < di q))))) ∧ (u[9]? = some (ad 9, iN K n (low nb bt co di q))) ∧ (Fr (fun j => j = 9) ws u)) := by
  refine q_entMi RX1 [(0, .ref (ad 7)), (1, .int (iZ ((q : Nat) : Int)))] (by decide) rfl rfl (Nat.le_of_ble_eq_true rfl) rfl ?_
  intro p e s m args below meth c hc hr hlk
  have i1 : ∀ w ∈ u_ws RX1 TX1 4, w ∈ wsX1_lowerDistance := by decide +kernel
  have f28 := hc.1.2.2.2.2 (.fieldLink RX1 28 "GlobalRoutes$Leader" "distances" "[I") (by decide +kernel)
  have f9 := hc.1.2.2.2.2 (.fieldLink RX1 9 "GlobalRoutes$Leader" "grid" "LGlobalRoutes$Grid;") (by decide +kernel)
  have i0 : ∀ w ∈ u_ws RX0 TX0 9, w ∈ wsX1_lowerDistance := by decide +kernel
  have f77 := hc.1.2.2.2.2 (.fieldLink RX1 77 "GlobalRoutes$Grid" "neighbours" "[I") (by decide +kernel)
  have wa83 : Cond.methodLink RX1 83 Lib.Math.min.name ∈ wsX1_lowerDistance := by decide +kernel
  have wbmin : Cond.static Lib.Math.min.name ∈ wsX1_lowerDistance := by decide +kernel
  have wc : Cond.initialized "java/lang/Math" ∈ wsX1_lowerDistance := by decide +kernel
  have wdmin : Cond.code Lib.Math.min.name Lib.Math.min.code 2 (some .int) ∈ wsX1_lowerDistance := by decide +kernel
  have fr0 : Fr (fun j => j = 9) ws ws := Fr.rfl
  refine q_aload_n hc 0 dX1_lowerDistance_0 rfl ?_
  refine q_get hc 7 2 i1 h7 rfl (by decide) f28 rfl rfl dX1_lowerDistance_1 ?_
  refine q_iload_n hc 1 dX1_lowerDistance_4 rfl ?_
  refine q_ialdN (j := q) hc 9 h9 rfl (by omega) (by omega) dX1_lowerDistance_5 ?_
  have hb1 := hdi q
  refine q_istore_n hc [(2, .int (iZ ((di q : Nat) : Int))), (0, .ref (ad 7)), (1, .int (iZ ((q : Nat) : Int)))] dX1_lowerDistance_6 rfl (by decide) rfl ?_
  refine q_iconstN hc 4 dX1_lowerDistance_7 rfl ?_
  refine q_iload_n hc 2 dX1_lowerDistance_8 rfl ?_
  refine q_imulN hc dX1_lowerDistance_9 ?_
  refine q_istore_n hc [(3, .int (iZ ((4 * q : Nat) : Int))), (2, .int (iZ ((di q : Nat) : Int))), (0, .ref (ad 7)), (1, .int (iZ ((q : Nat) : Int)))] dX1_lowerDistance_10 rfl (by decide) rfl ?_
  refine q_iload_n hc 0 dX1_lowerDistance_11 rfl ?_
  refine q_istore hc [(4, .int (iZ ((4 * q : Nat) : Int))), (3, .int (iZ ((4 * q : Nat) : Int))), (2, .int (iZ ((di q : Nat) : Int))), (0, .ref (ad 7)), (1, .int (iZ ((q : Nat) : Int)))] dX1_lowerDistance_12 (by decide) rfl ?_
  refine V.sub [3, 4, 2, 1, 0] rfl ?_
  refine V.loopP (α := Nat × Nat) (fun x => 4 - x.1) (fun x => (x.1 ≤ 4) ∧ (x.2 = bst nb bt di co q x.1)) (fun x => [(0, .ref (ad 7)), (1, .int (iZ ((q : Nat) : Int))), (2, .int (iZ ((x.2 : Nat) : Int))), (3, .int (iZ ((4 * q : Nat) : Int))), (4, .int (iZ ((4 * q + x.1 : Nat) : Int)))]) (0, di q) ⟨(Nat.zero_le _), (rfl)⟩ rfl ?_
  intro x ih14 hI
  obtain ⟨j, a⟩ := x
  try dsimp only at ih14 hI ⊢
  obtain ⟨hj, ha⟩ := hI
  refine q_iload hc 4 dX1_lowerDistance_14 rfl ?_
  refine q_iload_n hc 3 dX1_lowerDistance_16 rfl ?_
  refine q_iconstN hc 4 dX1_lowerDistance_17 rfl ?_
  refine q_iaddN hc dX1_lowerDistance_18 ?_
  refine q_icmpN_ge hc 53 dX1_lowerDistance_19 (by decide) (by omega) (by omega) (fun c3 => ?_) (fun c3 => ?_)
  · obtain rfl : j = 4 := by omega
    subst ha
    have hb8 := bst_le nb bt di co q 4
    refine q_iload_n hc 2 dX1_lowerDistance_53 rfl ?_
    refine q_aload_n hc 0 dX1_lowerDistance_54 rfl ?_
    refine q_get hc 7 2 i1 h7 rfl (by decide) f28 rfl rfl dX1_lowerDistance_55 ?_
    refine q_iload_n hc 1 dX1_lowerDistance_58 rfl ?_
    refine q_ialdN (j := q) hc 9 h9 rfl (by omega) (by omega) dX1_lowerDistance_59 ?_
    have hb4 := hdi q
    refine q_icmpN_ge hc 67 dX1_lowerDistance_60 (by decide) (by omega) (by omega) (fun c5 => ?_) (fun c5 => ?_)
    · refine q_iconstN hc 0 dX1_lowerDistance_67 rfl ?_
      refine q_istore hc [(4, .int (iZ ((0 : Nat) : Int))), (0, .ref (ad 7)), (1, .int (iZ ((q : Nat) : Int))), (2, .int (iZ (((bst nb bt di co q 4) : Nat) : Int))), (3, .int (iZ ((4 * q : Nat) : Int)))] dX1_lowerDistance_68 (by decide) rfl ?_
      refine q_aload_n hc 1 dX1_lowerDistance_70 rfl ?_
      refine q_get hc 7 2 i1 h7 rfl (by decide) f28 rfl rfl dX1_lowerDistance_71 ?_
      refine q_iload_n hc 2 dX1_lowerDistance_74 rfl ?_
      refine q_iload_n hc 3 dX1_lowerDistance_75 rfl ?_
      refine q_iastN (j := q) (x := (bst nb bt di co q 4)) hc 9 h9 rfl (by omega) (by omega) dX1_lowerDistance_76 (fun u6 hn' hf' => ?_)
      have hq7 : u6[9]? = some (ad 9, iN K n (va_up di q (bst nb bt di co q 4))) := hn'
      have hq8 := (hf' 1 (by omega)).trans h1
      have hq9 := (hf' 5 (by omega)).trans h5
      have hq10 := (hf' 6 (by omega)).trans h6
      have hq11 := (hf' 7 (by omega)).trans h7
      have hq12 := (hf' 8 (by omega)).trans h8
      have fr13 := Fr.one hf'
      refine q_iload hc 0 dX1_lowerDistance_77 rfl ?_
      exact q_zretM (b := false) hc (⟨congrArg (fun b => iZ (bZ b)) (decide_eq_false (by omega)).symm, hq7, (fr0.trans fr13 (fun _ _ => by omega))⟩) hr hlk dX1_lowerDistance_79
    · refine q_iconstN hc 1 dX1_lowerDistance_63 rfl ?_
      refine q_goto hc 68 dX1_lowerDistance_64 (by decide) ?_
      refine q_istore hc [(4, .int (iZ ((1 : Nat) : Int))), (0, .ref (ad 7)), (1, .int (iZ ((q : Nat) : Int))), (2, .int (iZ (((bst nb bt di co q 4) : Nat) : Int))), (3, .int (iZ ((4 * q : Nat) : Int)))] dX1_lowerDistance_68 (by decide) rfl ?_
      refine q_aload_n hc 1 dX1_lowerDistance_70 rfl ?_
      refine q_get hc 7 2 i1 h7 rfl (by decide) f28 rfl rfl dX1_lowerDistance_71 ?_
      refine q_iload_n hc 2 dX1_lowerDistance_74 rfl ?_
      refine q_iload_n hc 3 dX1_lowerDistance_75 rfl ?_
      refine q_iastN (j := q) (x := (bst nb bt di co q 4)) hc 9 h9 rfl (by omega) (by omega) dX1_lowerDistance_76 (fun u14 hn' hf' => ?_)
      have hq15 : u14[9]? = some (ad 9, iN K n (va_up di q (bst nb bt di co q 4))) := hn'
      have hq16 := (hf' 1 (by omega)).trans h1
      have hq17 := (hf' 5 (by omega)).trans h5
      have hq18 := (hf' 6 (by omega)).trans h6
      have hq19 := (hf' 7 (by omega)).trans h7
      have hq20 := (hf' 8 (by omega)).trans h8
      have fr21 := Fr.one hf'
      refine q_iload hc 0 dX1_lowerDistance_77 rfl ?_
      exact q_zretM (b := true) hc (⟨congrArg (fun b => iZ (bZ b)) (decide_eq_true (by omega)).symm, hq15, (fr0.trans fr21 (fun _ _ => by omega))⟩) hr hlk dX1_lowerDistance_79
  · refine q_aload_n hc 0 dX1_lowerDistance_22 rfl ?_
    refine q_get hc 7 0 i1 h7 rfl (by decide) f9 rfl rfl dX1_lowerDistance_23 ?_
    refine q_get hc 1 7 i0 h1 rfl (by decide) f77 rfl rfl dX1_lowerDistance_26 ?_
    refine q_iload hc 4 dX1_lowerDistance_29 rfl ?_
    refine q_iald (j := 4 * q + j) hc 5 h5 rfl (by omega) (by omega) dX1_lowerDistance_31 ?_
    rcases hNB (4 * q + j) with hu | ⟨u, b, hu, hb, hu1, hb1⟩
    · refine V.topi (show _ = -1 from by show oZ (nb (4 * q + j)) = _; rw [hu]; rfl) ?_
      refine q_iconst hc dX1_lowerDistance_32 ?_
      refine q_icmp_eq hc 47 dX1_lowerDistance_33 (by decide) (by omega) (by omega) (fun c22 => ?_) (fun c22 => ?_)
      · refine q_iincN (q := 4) hc 1 [(4, .int (iZ ((4 * q + j + 1 : Nat) : Int))), (0, .ref (ad 7)), (1, .int (iZ ((q : Nat) : Int))), (2, .int (iZ ((a : Nat) : Int))), (3, .int (iZ ((4 * q : Nat) : Int)))] dX1_lowerDistance_47 rfl rfl (by decide) rfl ?_
        refine q_goto hc 14 dX1_lowerDistance_50 (by decide) ?_
        refine V.sub [1, 2, 3, 4, 0] rfl ?_
        exact ih14 (j + 1, a) (by omega) ⟨(by omega), (by rw [ha, bst_none (dth_none hu)])⟩
      · exact absurd rfl c22
    · refine V.topi (show _ = ((u : Nat) : Int) from by show oZ (nb (4 * q + j)) = _; rw [hu]; rfl) ?_
      refine q_iconst hc dX1_lowerDistance_32 ?_
      refine q_icmp_eq hc 47 dX1_lowerDistance_33 (by decide) (by omega) (by omega) (fun c23 => ?_) (fun c23 => ?_)
      · exact absurd c23 (by omega)
      · refine q_iload_n hc 2 dX1_lowerDistance_36 rfl ?_
        refine q_aload_n hc 0 dX1_lowerDistance_37 rfl ?_
        refine q_iload hc 4 dX1_lowerDistance_38 rfl ?_
        refine q_callPn (As := [.int (iZ ((4 * q + j : Nat) : Int))]) (rest := [.int (iZ ((a : Nat) : Int))]) hc (c_X1_distanceThrough l D K ws ad (4 * q + j) u b w h n di co _ _ h1 h5 h6 h7 h8 h9 hn (by omega) hu hb hu1 hb1) (cwV 1 hc.1.2.2.2.2 gX1_lowerDistance_X1_distanceThrough rfl rfl rfl (by decide +kernel) ⟨Nat.le_of_ble_eq_true rfl, Nat.le_of_ble_eq_true rfl⟩) 7 h7 rfl rfl rfl (by simp [Value.category]) dX1_lowerDistance_40 ⟨Nat.zero_le _, Nat.zero_le _⟩ ?_
        have hb7 := hdi u; have hb6 := hco b (by omega); have hb5 := hdi q; have hb8 := bst_le nb bt di co q j
        refine q_mminN hc wa83 wbmin wc wdmin (by decide) (by simp [Value.category]) ⟨Nat.zero_le _, Nat.zero_le _⟩ (by omega) (by omega) dX1_lowerDistance_43 ?_
        refine q_istore_n hc [(2, .int (iZ ((if di u + co b < a then di u + co b else a : Nat) : Int))), (0, .ref (ad 7)), (1, .int (iZ ((q : Nat) : Int))), (3, .int (iZ ((4 * q : Nat) : Int))), (4, .int (iZ ((4 * q + j : Nat) : Int)))] dX1_lowerDistance_46 rfl (by decide) rfl ?_
        refine q_iincN (q := 4) hc 1 [(4, .int (iZ ((4 * q + j + 1 : Nat) : Int))), (2, .int (iZ ((if di u + co b < a then di u + co b else a : Nat) : Int))), (0, .ref (ad 7)), (1, .int (iZ ((q : Nat) : Int))), (3, .int (iZ ((4 * q : Nat) : Int)))] dX1_lowerDistance_47 rfl rfl (by decide) rfl ?_
        refine q_goto hc 14 dX1_lowerDistance_50 (by decide) ?_
        refine V.sub [2, 3, 1, 4, 0] rfl ?_
        exact ih14 (j + 1, if di u + co b < a then di u + co b else a) (by omega) ⟨(by omega), (by rw [ha, bst_some (dth_some hu hb)])⟩
