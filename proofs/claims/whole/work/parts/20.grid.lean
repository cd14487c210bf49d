
set_option maxRecDepth 100000 in
set_option maxHeartbeats 4000000 in
theorem c_X0_hasCell (l : Launch) (D : va_G) (K : Nat → ClassId) (ws : va_W) (ad : Nat → Nat) (x y : Int) (w h n : Nat) (h1 : ws[1]? = some (ad 1, gO ad w h n)) (hx : -2147483648 ≤ x ∧ x < 2147483648) (hy : -2147483648 ≤ y ∧ y < 2147483648) (hn : n ≤ 64) (hw : 0 < w ∧ w ≤ 8 ∧ h ≤ 8) : MPi l yX0_hasCell wsX0_hasCell ({ frames := 0, cells := 0, slots := 0, locals := 0 }) D K ws [.ref (ad 1), .int (iZ x), .int (iZ y)] (fun r => r = (iZ (bZ (decide (0 ≤ x ∧ x < (w : Int) ∧ 0 ≤ y ∧ y < (h : Int)))))) := by
  refine q_entPi RX0 [(0, .ref (ad 1)), (1, .int (iZ x)), (2, .int (iZ y))] (by decide) rfl rfl (Nat.le_of_ble_eq_true rfl) rfl ?_
  intro p e s m args below meth c hc hr hlk
  have i0 : ∀ w ∈ u_ws RX0 TX0 9, w ∈ wsX0_hasCell := by decide +kernel
  have f9 := hc.1.2.2.2.2 (.fieldLink RX0 9 "GlobalRoutes$Grid" "width" "I") (by decide +kernel)
  have f15 := hc.1.2.2.2.2 (.fieldLink RX0 15 "GlobalRoutes$Grid" "height" "I") (by decide +kernel)
  refine q_iload_n hc 1 dX0_hasCell_0 rfl ?_
  refine q_if_lt hc 28 dX0_hasCell_1 (by decide) (by omega) (fun c1 => ?_) (fun c1 => ?_)
  · refine q_iconstN hc 0 dX0_hasCell_28 rfl ?_
    exact q_zretP (b := false) hc (congrArg (fun b => iZ (bZ b)) (decide_eq_false (by omega)).symm) hr hlk dX0_hasCell_29
  · refine q_iload_n hc 1 dX0_hasCell_4 rfl ?_
    refine q_aload_n hc 0 dX0_hasCell_5 rfl ?_
    refine q_get hc 1 0 i0 h1 rfl (by decide) f9 rfl rfl dX0_hasCell_6 ?_
    refine q_icmp_ge hc 28 dX0_hasCell_9 (by decide) (by omega) (by omega) (fun c2 => ?_) (fun c2 => ?_)
    · refine q_iconstN hc 0 dX0_hasCell_28 rfl ?_
      exact q_zretP (b := false) hc (congrArg (fun b => iZ (bZ b)) (decide_eq_false (by omega)).symm) hr hlk dX0_hasCell_29
    · refine q_iload_n hc 2 dX0_hasCell_12 rfl ?_
      refine q_if_lt hc 28 dX0_hasCell_13 (by decide) (by omega) (fun c3 => ?_) (fun c3 => ?_)
      · refine q_iconstN hc 0 dX0_hasCell_28 rfl ?_
        exact q_zretP (b := false) hc (congrArg (fun b => iZ (bZ b)) (decide_eq_false (by omega)).symm) hr hlk dX0_hasCell_29
      · refine q_iload_n hc 2 dX0_hasCell_16 rfl ?_
        refine q_aload_n hc 0 dX0_hasCell_17 rfl ?_
        refine q_get hc 1 1 i0 h1 rfl (by decide) f15 rfl rfl dX0_hasCell_18 ?_
        refine q_icmp_ge hc 28 dX0_hasCell_21 (by decide) (by omega) (by omega) (fun c4 => ?_) (fun c4 => ?_)
        · refine q_iconstN hc 0 dX0_hasCell_28 rfl ?_
          exact q_zretP (b := false) hc (congrArg (fun b => iZ (bZ b)) (decide_eq_false (by omega)).symm) hr hlk dX0_hasCell_29
        · refine q_iconstN hc 1 dX0_hasCell_24 rfl ?_
          refine q_goto hc 29 dX0_hasCell_25 (by decide) ?_
          exact q_zretP (b := true) hc (congrArg (fun b => iZ (bZ b)) (decide_eq_true (by omega)).symm) hr hlk dX0_hasCell_29

set_option maxRecDepth 100000 in
set_option maxHeartbeats 4000000 in
theorem c_X0_cellAt (l : Launch) (D : va_G) (K : Nat → ClassId) (ws : va_W) (ad : Nat → Nat) (x y : Nat) (w h n : Nat) (h1 : ws[1]? = some (ad 1, gO ad w h n)) : MPi l yX0_cellAt wsX0_cellAt ({ frames := 0, cells := 0, slots := 0, locals := 0 }) D K ws [.ref (ad 1), .int (iZ ((x : Nat) : Int)), .int (iZ ((y : Nat) : Int))] (fun r => r = (iZ ((x + w * y : Nat) : Int))) := by
  refine q_entPi RX0 [(0, .ref (ad 1)), (1, .int (iZ ((x : Nat) : Int))), (2, .int (iZ ((y : Nat) : Int)))] (by decide) rfl rfl (Nat.le_of_ble_eq_true rfl) rfl ?_
  intro p e s m args below meth c hc hr hlk
  have i0 : ∀ w ∈ u_ws RX0 TX0 9, w ∈ wsX0_cellAt := by decide +kernel
  have f9 := hc.1.2.2.2.2 (.fieldLink RX0 9 "GlobalRoutes$Grid" "width" "I") (by decide +kernel)
  refine q_iload_n hc 1 dX0_cellAt_0 rfl ?_
  refine q_aload_n hc 0 dX0_cellAt_1 rfl ?_
  refine q_get hc 1 0 i0 h1 rfl (by decide) f9 rfl rfl dX0_cellAt_2 ?_
  refine q_iload_n hc 2 dX0_cellAt_5 rfl ?_
  refine q_imulN hc dX0_cellAt_6 ?_
  refine q_iaddN hc dX0_cellAt_7 ?_
  exact q_iretP (z := ((x + (w * y) : Nat) : Int)) hc (congrArg iZ (by omega)) hr hlk dX0_cellAt_8

set_option maxRecDepth 100000 in
set_option maxHeartbeats 4000000 in
theorem c_X0_columnOf (l : Launch) (D : va_G) (K : Nat → ClassId) (ws : va_W) (ad : Nat → Nat) (q : Nat) (w h n : Nat) (h1 : ws[1]? = some (ad 1, gO ad w h n)) (hw : 0 < w ∧ w ≤ 8 ∧ h ≤ 8) (hc0 : q < 2147483648) : MPi l yX0_columnOf wsX0_columnOf ({ frames := 0, cells := 0, slots := 0, locals := 0 }) D K ws [.ref (ad 1), .int (iZ ((q : Nat) : Int))] (fun r => r = (iZ ((q % w : Nat) : Int))) := by
  refine q_entPi RX0 [(0, .ref (ad 1)), (1, .int (iZ ((q : Nat) : Int)))] (by decide) rfl rfl (Nat.le_of_ble_eq_true rfl) rfl ?_
  intro p e s m args below meth c hc hr hlk
  have i0 : ∀ w ∈ u_ws RX0 TX0 9, w ∈ wsX0_columnOf := by decide +kernel
  have f9 := hc.1.2.2.2.2 (.fieldLink RX0 9 "GlobalRoutes$Grid" "width" "I") (by decide +kernel)
  refine q_iload_n hc 1 dX0_columnOf_0 rfl ?_
  refine q_aload_n hc 0 dX0_columnOf_1 rfl ?_
  refine q_get hc 1 0 i0 h1 rfl (by decide) f9 rfl rfl dX0_columnOf_2 ?_
  refine q_iremN hc dX0_columnOf_5 (by omega) (by omega) ?_
  exact q_iretP (z := ((q % w : Nat) : Int)) hc (rfl) hr hlk dX0_columnOf_6

set_option maxRecDepth 100000 in
set_option maxHeartbeats 4000000 in
theorem c_X0_rowOf (l : Launch) (D : va_G) (K : Nat → ClassId) (ws : va_W) (ad : Nat → Nat) (q : Nat) (w h n : Nat) (h1 : ws[1]? = some (ad 1, gO ad w h n)) (hw : 0 < w ∧ w ≤ 8 ∧ h ≤ 8) (hc0 : q < 2147483648) : MPi l yX0_rowOf wsX0_rowOf ({ frames := 0, cells := 0, slots := 0, locals := 0 }) D K ws [.ref (ad 1), .int (iZ ((q : Nat) : Int))] (fun r => r = (iZ ((q / w : Nat) : Int))) := by
  refine q_entPi RX0 [(0, .ref (ad 1)), (1, .int (iZ ((q : Nat) : Int)))] (by decide) rfl rfl (Nat.le_of_ble_eq_true rfl) rfl ?_
  intro p e s m args below meth c hc hr hlk
  have i0 : ∀ w ∈ u_ws RX0 TX0 9, w ∈ wsX0_rowOf := by decide +kernel
  have f9 := hc.1.2.2.2.2 (.fieldLink RX0 9 "GlobalRoutes$Grid" "width" "I") (by decide +kernel)
  refine q_iload_n hc 1 dX0_rowOf_0 rfl ?_
  refine q_aload_n hc 0 dX0_rowOf_1 rfl ?_
  refine q_get hc 1 0 i0 h1 rfl (by decide) f9 rfl rfl dX0_rowOf_2 ?_
  refine q_idivN hc dX0_rowOf_5 (by omega) (by omega) ?_
  exact q_iretP (z := ((q / w : Nat) : Int)) hc (rfl) hr hlk dX0_rowOf_6

set_option maxRecDepth 100000 in
set_option maxHeartbeats 4000000 in
theorem c_X0_excess (l : Launch) (D : va_G) (K : Nat → ClassId) (ws : va_W) (ad : Nat → Nat) (k : Nat) (w h n : Nat) (cap us : Nat → Nat) (h1 : ws[1]? = some (ad 1, gO ad w h n)) (h2 : ws[2]? = some (ad 2, iN K (2 * n) cap)) (h3 : ws[3]? = some (ad 3, iN K (2 * n) us)) (hk : k < 2 * n) (hn : n ≤ 64) (hcap : ∀ k, k < 2 * n → cap k ≤ 20) (hus : ∀ k, k < 2 * n → us k ≤ 12) : MPi l yX0_excess wsX0_excess ({ frames := 1, cells := 0, slots := 0, locals := 21 }) D K ws [.ref (ad 1), .int (iZ ((k : Nat) : Int))] (fun r => r = (iZ ((us k - cap k : Nat) : Int))) := by
  refine q_entPi RX0 [(0, .ref (ad 1)), (1, .int (iZ ((k : Nat) : Int)))] (by decide) rfl rfl (Nat.le_of_ble_eq_true rfl) rfl ?_
  intro p e s m args below meth c hc hr hlk
  have i0 : ∀ w ∈ u_ws RX0 TX0 9, w ∈ wsX0_excess := by decide +kernel
  have f28 := hc.1.2.2.2.2 (.fieldLink RX0 28 "GlobalRoutes$Grid" "uses" "[I") (by decide +kernel)
  have f24 := hc.1.2.2.2.2 (.fieldLink RX0 24 "GlobalRoutes$Grid" "capacities" "[I") (by decide +kernel)
  have wa58 : Cond.methodLink RX0 58 Lib.Math.max.name ∈ wsX0_excess := by decide +kernel
  have wbmax : Cond.static Lib.Math.max.name ∈ wsX0_excess := by decide +kernel
  have wc : Cond.initialized "java/lang/Math" ∈ wsX0_excess := by decide +kernel
  have wdmax : Cond.code Lib.Math.max.name Lib.Math.max.code 2 (some .int) ∈ wsX0_excess := by decide +kernel
  refine q_iconstN hc 0 dX0_excess_0 rfl ?_
  refine q_aload_n hc 0 dX0_excess_1 rfl ?_
  refine q_get hc 1 5 i0 h1 rfl (by decide) f28 rfl rfl dX0_excess_2 ?_
  refine q_iload_n hc 1 dX0_excess_5 rfl ?_
  refine q_ialdN (j := k) hc 3 h3 rfl (by omega) (by omega) dX0_excess_6 ?_
  have hb1 := hus k (by omega)
  refine q_aload_n hc 0 dX0_excess_7 rfl ?_
  refine q_get hc 1 4 i0 h1 rfl (by decide) f24 rfl rfl dX0_excess_8 ?_
  refine q_iload_n hc 1 dX0_excess_11 rfl ?_
  refine q_ialdN (j := k) hc 2 h2 rfl (by omega) (by omega) dX0_excess_12 ?_
  have hb2 := hcap k (by omega)
  refine q_isub hc dX0_excess_13 ?_
  refine q_mmax hc wa58 wbmax wc wdmax (by decide) (by simp [Value.category]) ⟨Nat.zero_le _, Nat.zero_le _⟩ (by omega) (by omega) dX0_excess_14 ?_
  exact q_iretP (z := if ((0 : Nat) : Int) < ((us k : Nat) : Int) - ((cap k : Nat) : Int) then ((us k : Nat) : Int) - ((cap k : Nat) : Int) else ((0 : Nat) : Int)) hc (congrArg iZ (by split <;> omega)) hr hlk dX0_excess_17

set_option maxRecDepth 100000 in
set_option maxHeartbeats 4000000 in
theorem c_X0_costOfOneMore (l : Launch) (D : va_G) (K : Nat → ClassId) (ws : va_W) (ad : Nat → Nat) (k : Nat) (w h n : Nat) (cap us hi : Nat → Nat) (h1 : ws[1]? = some (ad 1, gO ad w h n)) (h2 : ws[2]? = some (ad 2, iN K (2 * n) cap)) (h3 : ws[3]? = some (ad 3, iN K (2 * n) us)) (h4 : ws[4]? = some (ad 4, iN K (2 * n) hi)) (hk : k < 2 * n) (hn : n ≤ 64) (hcap : ∀ k, k < 2 * n → cap k ≤ 20) (hus : ∀ k, k < 2 * n → us k ≤ 12) (hhi : ∀ k, k < 2 * n → hi k ≤ 5120) : MPi l yX0_costOfOneMore wsX0_costOfOneMore ({ frames := 1, cells := 0, slots := 0, locals := 21 }) D K ws [.ref (ad 1), .int (iZ ((k : Nat) : Int))] (fun r => r = (iZ ((1 + hi k + 4 * (us k + 1 - cap k) : Nat) : Int))) := by
  refine q_entPi RX0 [(0, .ref (ad 1)), (1, .int (iZ ((k : Nat) : Int)))] (by decide) rfl rfl (Nat.le_of_ble_eq_true rfl) rfl ?_
  intro p e s m args below meth c hc hr hlk
  have i0 : ∀ w ∈ u_ws RX0 TX0 9, w ∈ wsX0_costOfOneMore := by decide +kernel
  have f28 := hc.1.2.2.2.2 (.fieldLink RX0 28 "GlobalRoutes$Grid" "uses" "[I") (by decide +kernel)
  have f24 := hc.1.2.2.2.2 (.fieldLink RX0 24 "GlobalRoutes$Grid" "capacities" "[I") (by decide +kernel)
  have wa58 : Cond.methodLink RX0 58 Lib.Math.max.name ∈ wsX0_costOfOneMore := by decide +kernel
  have wbmax : Cond.static Lib.Math.max.name ∈ wsX0_costOfOneMore := by decide +kernel
  have wc : Cond.initialized "java/lang/Math" ∈ wsX0_costOfOneMore := by decide +kernel
  have wdmax : Cond.code Lib.Math.max.name Lib.Math.max.code 2 (some .int) ∈ wsX0_costOfOneMore := by decide +kernel
  have f31 := hc.1.2.2.2.2 (.fieldLink RX0 31 "GlobalRoutes$Grid" "histories" "[I") (by decide +kernel)
  refine q_iconstN hc 0 dX0_costOfOneMore_0 rfl ?_
  refine q_aload_n hc 0 dX0_costOfOneMore_1 rfl ?_
  refine q_get hc 1 5 i0 h1 rfl (by decide) f28 rfl rfl dX0_costOfOneMore_2 ?_
  refine q_iload_n hc 1 dX0_costOfOneMore_5 rfl ?_
  refine q_ialdN (j := k) hc 3 h3 rfl (by omega) (by omega) dX0_costOfOneMore_6 ?_
  have hb1 := hus k (by omega)
  refine q_iconstN hc 1 dX0_costOfOneMore_7 rfl ?_
  refine q_iaddN hc dX0_costOfOneMore_8 ?_
  refine q_aload_n hc 0 dX0_costOfOneMore_9 rfl ?_
  refine q_get hc 1 4 i0 h1 rfl (by decide) f24 rfl rfl dX0_costOfOneMore_10 ?_
  refine q_iload_n hc 1 dX0_costOfOneMore_13 rfl ?_
  refine q_ialdN (j := k) hc 2 h2 rfl (by omega) (by omega) dX0_costOfOneMore_14 ?_
  have hb2 := hcap k (by omega)
  refine q_isub hc dX0_costOfOneMore_15 ?_
  refine q_mmax hc wa58 wbmax wc wdmax (by decide) (by simp [Value.category]) ⟨Nat.zero_le _, Nat.zero_le _⟩ (by omega) (by omega) dX0_costOfOneMore_16 ?_
  refine q_istore_n hc [(2, .int (iZ (if ((0 : Nat) : Int) < ((us k + 1 : Nat) : Int) - ((cap k : Nat) : Int) then ((us k + 1 : Nat) : Int) - ((cap k : Nat) : Int) else ((0 : Nat) : Int)))), (0, .ref (ad 1)), (1, .int (iZ ((k : Nat) : Int)))] dX0_costOfOneMore_19 rfl (by decide) rfl ?_
  refine q_iconstN hc 1 dX0_costOfOneMore_20 rfl ?_
  refine q_aload_n hc 1 dX0_costOfOneMore_21 rfl ?_
  refine q_get hc 1 6 i0 h1 rfl (by decide) f31 rfl rfl dX0_costOfOneMore_22 ?_
  refine q_iload_n hc 2 dX0_costOfOneMore_25 rfl ?_
  refine q_ialdN (j := k) hc 4 h4 rfl (by omega) (by omega) dX0_costOfOneMore_26 ?_
  have hb3 := hhi k (by omega)
  refine q_iaddN hc dX0_costOfOneMore_27 ?_
  refine q_iconstN hc 4 dX0_costOfOneMore_28 rfl ?_
  refine q_iload_n hc 0 dX0_costOfOneMore_29 rfl ?_
  refine q_imul hc dX0_costOfOneMore_30 ?_
  refine q_iadd hc dX0_costOfOneMore_31 ?_
  exact q_iretP (z := ((1 + (hi k) : Nat) : Int) + (((4 : Nat) : Int) * (if ((0 : Nat) : Int) < ((us k + 1 : Nat) : Int) - ((cap k : Nat) : Int) then ((us k + 1 : Nat) : Int) - ((cap k : Nat) : Int) else ((0 : Nat) : Int)))) hc (congrArg iZ (by split <;> omega)) hr hlk dX0_costOfOneMore_32

set_option maxRecDepth 100000 in
set_option maxHeartbeats 4000000 in
theorem c_X0_bordersOver (l : Launch) (D : va_G) (K : Nat → ClassId) (ws : va_W) (ad : Nat → Nat) (w h n : Nat) (cap us : Nat → Nat) (h1 : ws[1]? = some (ad 1, gO ad w h n)) (h2 : ws[2]? = some (ad 2, iN K (2 * n) cap)) (h3 : ws[3]? = some (ad 3, iN K (2 * n) us)) (hn : n ≤ 64) (hcap : ∀ k, k < 2 * n → cap k ≤ 20) (hus : ∀ k, k < 2 * n → us k ≤ 12) : MPi l yX0_bordersOver wsX0_bordersOver ({ frames := 2, cells := 0, slots := 0, locals := 42 }) D K ws [.ref (ad 1)] (fun r => r = (iZ ((cnt (fun k => decide (0 < us k - cap k)) (2 * n) : Nat) : Int))) := by
  refine q_entPi RX0 [(0, .ref (ad 1))] (by decide) rfl rfl (Nat.le_of_ble_eq_true rfl) rfl ?_
  intro p e s m args below meth c hc hr hlk
  have i0 : ∀ w ∈ u_ws RX0 TX0 9, w ∈ wsX0_bordersOver := by decide +kernel
  have f21 := hc.1.2.2.2.2 (.fieldLink RX0 21 "GlobalRoutes$Grid" "borders" "I") (by decide +kernel)
  refine q_iconstN hc 0 dX0_bordersOver_0 rfl ?_
  refine q_istore_n hc [(1, .int (iZ ((0 : Nat) : Int))), (0, .ref (ad 1))] dX0_bordersOver_1 rfl (by decide) rfl ?_
  refine q_iconstN hc 0 dX0_bordersOver_2 rfl ?_
  refine q_istore_n hc [(2, .int (iZ ((0 : Nat) : Int))), (1, .int (iZ ((0 : Nat) : Int))), (0, .ref (ad 1))] dX0_bordersOver_3 rfl (by decide) rfl ?_
  refine V.sub [2, 1, 0] rfl ?_
  refine V.loopP (α := Nat × Nat) (fun x => 2 * n - x.1) (fun x => (x.1 ≤ 2 * n) ∧ (x.2 = cnt (fun k => decide (0 < us k - cap k)) x.1)) (fun x => [(0, .ref (ad 1)), (1, .int (iZ ((x.2 : Nat) : Int))), (2, .int (iZ ((x.1 : Nat) : Int)))]) (0, 0) ⟨(Nat.zero_le _), (rfl)⟩ rfl ?_
  intro x ih4 hI
  obtain ⟨i, a⟩ := x
  try dsimp only at ih4 hI ⊢
  obtain ⟨hi0, ha⟩ := hI
  refine q_iload_n hc 2 dX0_bordersOver_4 rfl ?_
  refine q_aload_n hc 0 dX0_bordersOver_5 rfl ?_
  refine q_get hc 1 3 i0 h1 rfl (by decide) f21 rfl rfl dX0_bordersOver_6 ?_
  refine q_icmpN_ge hc 29 dX0_bordersOver_9 (by decide) (by omega) (by omega) (fun c2 => ?_) (fun c2 => ?_)
  · refine q_iload_n hc 1 dX0_bordersOver_29 rfl ?_
    exact q_iretP (z := ((a : Nat) : Int)) hc (by rw [ha, show i = 2 * n by omega]) hr hlk dX0_bordersOver_30
  · refine q_aload_n hc 0 dX0_bordersOver_12 rfl ?_
    refine q_iload_n hc 2 dX0_bordersOver_13 rfl ?_
    refine q_callPn (As := [.int (iZ ((i : Nat) : Int))]) (rest := []) hc (c_X0_excess l D K ws ad i w h n cap us h1 h2 h3 (by omega) hn hcap hus) (cwV 1 hc.1.2.2.2.2 gX0_bordersOver_X0_excess rfl rfl rfl (by decide +kernel) ⟨Nat.le_of_ble_eq_true rfl, Nat.le_of_ble_eq_true rfl⟩) 1 h1 rfl rfl rfl (by decide) dX0_bordersOver_14 ⟨Nat.zero_le _, Nat.zero_le _⟩ ?_
    have hb9 := hus i (by omega)
    refine q_if_le hc 23 dX0_bordersOver_17 (by decide) (by omega) (fun c5 => ?_) (fun c5 => ?_)
    · refine q_iincN (q := 2) hc 1 [(2, .int (iZ ((i + 1 : Nat) : Int))), (0, .ref (ad 1)), (1, .int (iZ ((a : Nat) : Int)))] dX0_bordersOver_23 rfl rfl (by decide) rfl ?_
      refine q_goto hc 4 dX0_bordersOver_26 (by decide) ?_
      refine V.sub [1, 2, 0] rfl ?_
      exact ih4 (i + 1, a) (by omega) ⟨(by omega), (by rw [cnt_s, ha]; simp; omega)⟩
    · refine q_iincN (q := 1) hc 1 [(1, .int (iZ ((a + 1 : Nat) : Int))), (0, .ref (ad 1)), (2, .int (iZ ((i : Nat) : Int)))] dX0_bordersOver_20 rfl rfl (by decide) rfl ?_
      refine q_iincN (q := 2) hc 1 [(2, .int (iZ ((i + 1 : Nat) : Int))), (1, .int (iZ ((a + 1 : Nat) : Int))), (0, .ref (ad 1))] dX0_bordersOver_23 rfl rfl (by decide) rfl ?_
      refine q_goto hc 4 dX0_bordersOver_26 (by decide) ?_
      refine V.sub [2, 1, 0] rfl ?_
      exact ih4 (i + 1, a + 1) (by omega) ⟨(by omega), (by rw [cnt_s, ha]; simp; omega)⟩

set_option maxRecDepth 100000 in
set_option maxHeartbeats 4000000 in
theorem c_X0_excessOfAll (l : Launch) (D : va_G) (K : Nat → ClassId) (ws : va_W) (ad : Nat → Nat) (w h n : Nat) (cap us : Nat → Nat) (h1 : ws[1]? = some (ad 1, gO ad w h n)) (h2 : ws[2]? = some (ad 2, iN K (2 * n) cap)) (h3 : ws[3]? = some (ad 3, iN K (2 * n) us)) (hn : n ≤ 64) (hcap : ∀ k, k < 2 * n → cap k ≤ 20) (hus : ∀ k, k < 2 * n → us k ≤ 12) : MPi l yX0_excessOfAll wsX0_excessOfAll ({ frames := 2, cells := 0, slots := 0, locals := 42 }) D K ws [.ref (ad 1)] (fun r => r = (iZ ((sm (fun k => us k - cap k) (2 * n) : Nat) : Int))) := by
  refine q_entPi RX0 [(0, .ref (ad 1))] (by decide) rfl rfl (Nat.le_of_ble_eq_true rfl) rfl ?_
  intro p e s m args below meth c hc hr hlk
  have i0 : ∀ w ∈ u_ws RX0 TX0 9, w ∈ wsX0_excessOfAll := by decide +kernel
  have f21 := hc.1.2.2.2.2 (.fieldLink RX0 21 "GlobalRoutes$Grid" "borders" "I") (by decide +kernel)
  refine q_iconstN hc 0 dX0_excessOfAll_0 rfl ?_
  refine q_istore_n hc [(1, .int (iZ ((0 : Nat) : Int))), (0, .ref (ad 1))] dX0_excessOfAll_1 rfl (by decide) rfl ?_
  refine q_iconstN hc 0 dX0_excessOfAll_2 rfl ?_
  refine q_istore_n hc [(2, .int (iZ ((0 : Nat) : Int))), (1, .int (iZ ((0 : Nat) : Int))), (0, .ref (ad 1))] dX0_excessOfAll_3 rfl (by decide) rfl ?_
  refine V.sub [2, 1, 0] rfl ?_
  refine V.loopP (α := Nat × Nat) (fun x => 2 * n - x.1) (fun x => (x.1 ≤ 2 * n) ∧ (x.2 = sm (fun k => us k - cap k) x.1)) (fun x => [(0, .ref (ad 1)), (1, .int (iZ ((x.2 : Nat) : Int))), (2, .int (iZ ((x.1 : Nat) : Int)))]) (0, 0) ⟨(Nat.zero_le _), (rfl)⟩ rfl ?_
  intro x ih4 hI
  obtain ⟨i, a⟩ := x
  try dsimp only at ih4 hI ⊢
  obtain ⟨hi0, ha⟩ := hI
  refine q_iload_n hc 2 dX0_excessOfAll_4 rfl ?_
  refine q_aload_n hc 0 dX0_excessOfAll_5 rfl ?_
  refine q_get hc 1 3 i0 h1 rfl (by decide) f21 rfl rfl dX0_excessOfAll_6 ?_
  refine q_icmpN_ge hc 26 dX0_excessOfAll_9 (by decide) (by omega) (by omega) (fun c2 => ?_) (fun c2 => ?_)
  · refine q_iload_n hc 1 dX0_excessOfAll_26 rfl ?_
    exact q_iretP (z := ((a : Nat) : Int)) hc (by rw [ha, show i = 2 * n by omega]) hr hlk dX0_excessOfAll_27
  · refine q_iload_n hc 1 dX0_excessOfAll_12 rfl ?_
    refine q_aload_n hc 0 dX0_excessOfAll_13 rfl ?_
    refine q_iload_n hc 2 dX0_excessOfAll_14 rfl ?_
    refine q_callPn (As := [.int (iZ ((i : Nat) : Int))]) (rest := [.int (iZ ((a : Nat) : Int))]) hc (c_X0_excess l D K ws ad i w h n cap us h1 h2 h3 (by omega) hn hcap hus) (cwV 1 hc.1.2.2.2.2 gX0_excessOfAll_X0_excess rfl rfl rfl (by decide +kernel) ⟨Nat.le_of_ble_eq_true rfl, Nat.le_of_ble_eq_true rfl⟩) 1 h1 rfl rfl rfl (by simp [Value.category]) dX0_excessOfAll_15 ⟨Nat.zero_le _, Nat.zero_le _⟩ ?_
    refine q_iaddN hc dX0_excessOfAll_18 ?_
    refine q_istore_n hc [(1, .int (iZ ((a + (us i - cap i) : Nat) : Int))), (0, .ref (ad 1)), (2, .int (iZ ((i : Nat) : Int)))] dX0_excessOfAll_19 rfl (by decide) rfl ?_
    refine q_iincN (q := 2) hc 1 [(2, .int (iZ ((i + 1 : Nat) : Int))), (1, .int (iZ ((a + (us i - cap i) : Nat) : Int))), (0, .ref (ad 1))] dX0_excessOfAll_20 rfl rfl (by decide) rfl ?_
    refine q_goto hc 4 dX0_excessOfAll_23 (by decide) ?_
    refine V.sub [2, 1, 0] rfl ?_
    exact ih4 (i + 1, a + (us i - cap i)) (by omega) ⟨(by omega), (by rw [sm_s, ha])⟩
