
set_option maxRecDepth 100000 in
set_option maxHeartbeats 4000000 in
theorem c_X5_thrown (l : Launch) (D : va_G) (K : Nat → ClassId) (ws : va_W) (ad : Nat → Nat) (w h th nc rc : Nat) (h66 : ws[66]? = some (ad 66, mO ad w h th nc rc)) : MPi l yX5_thrown wsX5_thrown ({ frames := 0, cells := 0, slots := 0, locals := 0 }) D K ws [.ref (ad 66)] (fun r => r = (iZ ((th : Nat) : Int))) := by
  refine q_entPi RX5 [(0, .ref (ad 66))] (by decide) rfl rfl (Nat.le_of_ble_eq_true rfl) rfl ?_
  intro p e s m args below meth c hc hr hlk
  have i5 : ∀ w ∈ u_ws RX5 TX5 16, w ∈ wsX5_thrown := by decide +kernel
  have f52 := hc.1.2.2.2.2 (.fieldLink RX5 52 "GlobalRoutesModel" "thrown" "I") (by decide +kernel)
  refine q_aload_n hc 0 dX5_thrown_0 rfl ?_
  refine q_get hc 66 0 i5 h66 rfl (by decide) f52 rfl rfl dX5_thrown_1 ?_
  exact q_iretP (z := ((th : Nat) : Int)) hc (rfl) hr hlk dX5_thrown_4

set_option maxRecDepth 100000 in
set_option maxHeartbeats 4000000 in
theorem c_X5_fails (l : Launch) (D : va_G) (K : Nat → ClassId) (ws : va_W) (ad : Nat → Nat) (w h nc rc : Nat) (so : Bool) (kd : Nat) (h66 : ws[66]? = some (ad 66, mO ad w h 0 nc rc)) (hkd : 1 ≤ kd ∧ kd < 10) : MMi l yX5_fails wsX5_fails ({ frames := 0, cells := 0, slots := 0, locals := 0 }) D K ws [.ref (ad 66), .int (iZ (bZ so)), .int (iZ ((kd : Nat) : Int))] (fun r u => (r = (iZ (bZ so))) ∧ (u[66]? = some (ad 66, mO ad w h (fT so kd) nc rc)) ∧ (Fr (fun j => j = 66) ws u)) := by
  refine q_entMi RX5 [(0, .ref (ad 66)), (1, .int (iZ (bZ so))), (2, .int (iZ ((kd : Nat) : Int)))] (by decide) rfl rfl (Nat.le_of_ble_eq_true rfl) rfl ?_
  intro p e s m args below meth c hc hr hlk
  have i5 : ∀ w ∈ u_ws RX5 TX5 16, w ∈ wsX5_fails := by decide +kernel
  have f52 := hc.1.2.2.2.2 (.fieldLink RX5 52 "GlobalRoutesModel" "thrown" "I") (by decide +kernel)
  have fr0 : Fr (fun j => j = 66) ws ws := Fr.rfl
  refine q_aload_n hc 0 dX5_fails_0 rfl ?_
  refine q_get hc 66 0 i5 h66 rfl (by decide) f52 rfl rfl dX5_fails_1 ?_
  refine q_if_ne hc 16 dX5_fails_4 (by decide) (by omega) (fun c1 => ?_) (fun c1 => ?_)
  · exact absurd rfl c1
  · refine q_iload_n hc 1 dX5_fails_7 rfl ?_
    refine q_ifz_eq hc 16 dX5_fails_8 (by decide) (fun c2 => ?_) (fun c2 => ?_)
    · subst c2
      refine q_aload_n hc 0 dX5_fails_16 rfl ?_
      refine q_get hc 66 0 i5 h66 rfl (by decide) f52 rfl rfl dX5_fails_17 ?_
      refine q_if_le hc 27 dX5_fails_20 (by decide) (by omega) (fun c3 => ?_) (fun c3 => ?_)
      · refine q_iconstN hc 0 dX5_fails_27 rfl ?_
        exact q_zretM (b := false) hc (⟨rfl, h66, fr0⟩) hr hlk dX5_fails_28
      · exact absurd (Nat.le_refl 0) (by omega)
    · subst c2
      refine q_aload_n hc 0 dX5_fails_11 rfl ?_
      refine q_iload_n hc 2 dX5_fails_12 rfl ?_
      refine q_put (ty := .int) hc 66 0 i5 tyX5 tyX5_ok nmX5 h66 rfl (by decide) f52 rfl rfl (by decide +kernel) rfl rfl (Nat.le_of_ble_eq_true rfl) rfl dX5_fails_13 (fun u4 hn' hf' => ?_)
      have hq5 : u4[66]? = some (ad 66, .inr (5, [.int (iZ ((kd : Nat) : Int)), .int (iZ ((w : Nat) : Int)), .int (iZ ((h : Nat) : Int)), .ref (ad 67), .ref (ad 68), .int (iZ ((nc : Nat) : Int)), .ref (ad 69), .ref (ad 70), .ref (ad 71), .ref (ad 72), .int (iZ ((rc : Nat) : Int)), .ref (ad 73), .ref (ad 74), .ref (ad 75), .ref (ad 76), .ref (ad 77)])) := hn'
      have fr6 := Fr.one hf'
      refine q_aload_n hc 0 dX5_fails_16 rfl ?_
      refine q_get hc 66 0 i5 hq5 rfl (by decide) f52 rfl rfl dX5_fails_17 ?_
      refine q_if_le hc 27 dX5_fails_20 (by decide) (by omega) (fun c7 => ?_) (fun c7 => ?_)
      · exact absurd c7 (by omega)
      · refine q_iconstN hc 1 dX5_fails_23 rfl ?_
        refine q_goto hc 28 dX5_fails_24 (by decide) ?_
        exact q_zretM (b := true) hc (⟨rfl, hq5, (fr0.trans fr6 (fun _ _ => by omega))⟩) hr hlk dX5_fails_28

set_option maxRecDepth 100000 in
set_option maxHeartbeats 4000000 in
theorem c_X5_isCell (l : Launch) (D : va_G) (K : Nat → ClassId) (ws : va_W) (ad : Nat → Nat) (w h th nc rc : Nat) (x y : Int) (h66 : ws[66]? = some (ad 66, mO ad w h th nc rc)) (hw2 : 2 ≤ w ∧ w ≤ 8 ∧ 2 ≤ h ∧ h ≤ 8) (hx : -2147483648 ≤ x ∧ x < 2147483648) (hy : -2147483648 ≤ y ∧ y < 2147483648) : MPi l yX5_isCell wsX5_isCell ({ frames := 0, cells := 0, slots := 0, locals := 0 }) D K ws [.ref (ad 66), .int (iZ x), .int (iZ y)] (fun r => r = (iZ (bZ (decide (0 ≤ x ∧ x < (w : Int) ∧ 0 ≤ y ∧ y < (h : Int)))))) := by
  refine q_entPi RX5 [(0, .ref (ad 66)), (1, .int (iZ x)), (2, .int (iZ y))] (by decide) rfl rfl (Nat.le_of_ble_eq_true rfl) rfl ?_
  intro p e s m args below meth c hc hr hlk
  have i5 : ∀ w ∈ u_ws RX5 TX5 16, w ∈ wsX5_isCell := by decide +kernel
  have f45 := hc.1.2.2.2.2 (.fieldLink RX5 45 "GlobalRoutesModel" "width" "I") (by decide +kernel)
  have f49 := hc.1.2.2.2.2 (.fieldLink RX5 49 "GlobalRoutesModel" "height" "I") (by decide +kernel)
  refine q_iload_n hc 1 dX5_isCell_0 rfl ?_
  refine q_if_lt hc 28 dX5_isCell_1 (by decide) (by omega) (fun c1 => ?_) (fun c1 => ?_)
  · refine q_iconstN hc 0 dX5_isCell_28 rfl ?_
    exact q_zretP (b := false) hc (congrArg (fun b => iZ (bZ b)) (decide_eq_false (by omega)).symm) hr hlk dX5_isCell_29
  · refine q_iload_n hc 1 dX5_isCell_4 rfl ?_
    refine q_aload_n hc 0 dX5_isCell_5 rfl ?_
    refine q_get hc 66 1 i5 h66 rfl (by decide) f45 rfl rfl dX5_isCell_6 ?_
    refine q_icmp_ge hc 28 dX5_isCell_9 (by decide) (by omega) (by omega) (fun c2 => ?_) (fun c2 => ?_)
    · refine q_iconstN hc 0 dX5_isCell_28 rfl ?_
      exact q_zretP (b := false) hc (congrArg (fun b => iZ (bZ b)) (decide_eq_false (by omega)).symm) hr hlk dX5_isCell_29
    · refine q_iload_n hc 2 dX5_isCell_12 rfl ?_
      refine q_if_lt hc 28 dX5_isCell_13 (by decide) (by omega) (fun c3 => ?_) (fun c3 => ?_)
      · refine q_iconstN hc 0 dX5_isCell_28 rfl ?_
        exact q_zretP (b := false) hc (congrArg (fun b => iZ (bZ b)) (decide_eq_false (by omega)).symm) hr hlk dX5_isCell_29
      · refine q_iload_n hc 2 dX5_isCell_16 rfl ?_
        refine q_aload_n hc 0 dX5_isCell_17 rfl ?_
        refine q_get hc 66 2 i5 h66 rfl (by decide) f49 rfl rfl dX5_isCell_18 ?_
        refine q_icmp_ge hc 28 dX5_isCell_21 (by decide) (by omega) (by omega) (fun c4 => ?_) (fun c4 => ?_)
        · refine q_iconstN hc 0 dX5_isCell_28 rfl ?_
          exact q_zretP (b := false) hc (congrArg (fun b => iZ (bZ b)) (decide_eq_false (by omega)).symm) hr hlk dX5_isCell_29
        · refine q_iconstN hc 1 dX5_isCell_24 rfl ?_
          refine q_goto hc 29 dX5_isCell_25 (by decide) ?_
          exact q_zretP (b := true) hc (congrArg (fun b => iZ (bZ b)) (decide_eq_true (by omega)).symm) hr hlk dX5_isCell_29

set_option maxRecDepth 100000 in
set_option maxHeartbeats 4000000 in
theorem c_X5_isBorder (l : Launch) (D : va_G) (K : Nat → ClassId) (ws : va_W) (ad : Nat → Nat) (w h th nc rc : Nat) (x y : Int) (d : Bool) (h66 : ws[66]? = some (ad 66, mO ad w h th nc rc)) (hw2 : 2 ≤ w ∧ w ≤ 8 ∧ 2 ≤ h ∧ h ≤ 8) (hx : -2147483648 ≤ x ∧ x < 2147483648) (hy : -2147483648 ≤ y ∧ y < 2147483648) : MPi l yX5_isBorder wsX5_isBorder ({ frames := 1, cells := 0, slots := 0, locals := 22 }) D K ws [.ref (ad 66), .int (iZ x), .int (iZ y), .int (iZ (bZ d))] (fun r => r = (iZ (bZ (hB w h x y d)))) := by
  refine q_entPi RX5 [(0, .ref (ad 66)), (1, .int (iZ x)), (2, .int (iZ y)), (3, .int (iZ (bZ d)))] (by decide) rfl rfl (Nat.le_of_ble_eq_true rfl) rfl ?_
  intro p e s m args below meth c hc hr hlk
  have i5 : ∀ w ∈ u_ws RX5 TX5 16, w ∈ wsX5_isBorder := by decide +kernel
  have f45 := hc.1.2.2.2.2 (.fieldLink RX5 45 "GlobalRoutesModel" "width" "I") (by decide +kernel)
  have f49 := hc.1.2.2.2.2 (.fieldLink RX5 49 "GlobalRoutesModel" "height" "I") (by decide +kernel)
  refine q_aload_n hc 0 dX5_isBorder_0 rfl ?_
  refine q_iload_n hc 1 dX5_isBorder_1 rfl ?_
  refine q_iload_n hc 2 dX5_isBorder_2 rfl ?_
  refine q_callPz (As := [.int (iZ x), .int (iZ y)]) (rest := []) hc (c_X5_isCell l D K ws ad w h th nc rc x y h66 hw2 hx hy) (cwV 2 hc.1.2.2.2.2 gX5_isBorder_X5_isCell rfl rfl rfl (by decide +kernel) ⟨Nat.le_of_ble_eq_true rfl, Nat.le_of_ble_eq_true rfl⟩) 66 h66 rfl rfl rfl (by decide) dX5_isBorder_3 ⟨Nat.zero_le _, Nat.zero_le _⟩ ?_
  refine q_ifz_eq hc 40 dX5_isBorder_6 (by decide) (fun c3 => ?_) (fun c3 => ?_)
  · have c0 := of_decide_eq_false c3
    refine q_iconstN hc 0 dX5_isBorder_40 rfl ?_
    exact q_zretP (b := false) hc (by rw [hB_no c0]) hr hlk dX5_isBorder_41
  · have c0 := of_decide_eq_true c3
    refine q_iload_n hc 3 dX5_isBorder_9 rfl ?_
    refine q_ifz_eq hc 26 dX5_isBorder_10 (by decide) (fun c4 => ?_) (fun c4 => ?_)
    · subst c4
      refine q_iload_n hc 1 dX5_isBorder_26 rfl ?_
      refine q_iconstN hc 1 dX5_isBorder_27 rfl ?_
      refine q_iadd hc dX5_isBorder_28 ?_
      refine q_aload_n hc 0 dX5_isBorder_29 rfl ?_
      refine q_get hc 66 1 i5 h66 rfl (by decide) f45 rfl rfl dX5_isBorder_30 ?_
      refine q_icmp_ge hc 40 dX5_isBorder_33 (by decide) (by omega) (by omega) (fun c5 => ?_) (fun c5 => ?_)
      · refine q_iconstN hc 0 dX5_isBorder_40 rfl ?_
        exact q_zretP (b := false) hc (congrArg (fun b => iZ (bZ b)) (decide_eq_false (by omega)).symm) hr hlk dX5_isBorder_41
      · refine q_iconstN hc 1 dX5_isBorder_36 rfl ?_
        refine q_goto hc 41 dX5_isBorder_37 (by decide) ?_
        exact q_zretP (b := true) hc (congrArg (fun b => iZ (bZ b)) (decide_eq_true (by omega)).symm) hr hlk dX5_isBorder_41
    · subst c4
      refine q_iload_n hc 2 dX5_isBorder_13 rfl ?_
      refine q_iconstN hc 1 dX5_isBorder_14 rfl ?_
      refine q_iadd hc dX5_isBorder_15 ?_
      refine q_aload_n hc 0 dX5_isBorder_16 rfl ?_
      refine q_get hc 66 2 i5 h66 rfl (by decide) f49 rfl rfl dX5_isBorder_17 ?_
      refine q_icmp_ge hc 40 dX5_isBorder_20 (by decide) (by omega) (by omega) (fun c6 => ?_) (fun c6 => ?_)
      · refine q_iconstN hc 0 dX5_isBorder_40 rfl ?_
        exact q_zretP (b := false) hc (congrArg (fun b => iZ (bZ b)) (decide_eq_false (by omega)).symm) hr hlk dX5_isBorder_41
      · refine q_goto hc 36 dX5_isBorder_23 (by decide) ?_
        refine q_iconstN hc 1 dX5_isBorder_36 rfl ?_
        refine q_goto hc 41 dX5_isBorder_37 (by decide) ?_
        exact q_zretP (b := true) hc (congrArg (fun b => iZ (bZ b)) (decide_eq_true (by omega)).symm) hr hlk dX5_isBorder_41

set_option maxRecDepth 100000 in
set_option maxHeartbeats 4000000 in
theorem c_X5_numberOf (l : Launch) (D : va_G) (K : Nat → ClassId) (ws : va_W) (ad : Nat → Nat) (w h th nc rc : Nat) (x y : Nat) (d : Bool) (h66 : ws[66]? = some (ad 66, mO ad w h th nc rc)) : MPi l yX5_numberOf wsX5_numberOf ({ frames := 0, cells := 0, slots := 0, locals := 0 }) D K ws [.ref (ad 66), .int (iZ ((x : Nat) : Int)), .int (iZ ((y : Nat) : Int)), .int (iZ (bZ d))] (fun r => r = (iZ ((x + w * y + 64 * bN d : Nat) : Int))) := by
  refine q_entPi RX5 [(0, .ref (ad 66)), (1, .int (iZ ((x : Nat) : Int))), (2, .int (iZ ((y : Nat) : Int))), (3, .int (iZ (bZ d)))] (by decide) rfl rfl (Nat.le_of_ble_eq_true rfl) rfl ?_
  intro p e s m args below meth c hc hr hlk
  have i5 : ∀ w ∈ u_ws RX5 TX5 16, w ∈ wsX5_numberOf := by decide +kernel
  have f45 := hc.1.2.2.2.2 (.fieldLink RX5 45 "GlobalRoutesModel" "width" "I") (by decide +kernel)
  refine q_iload_n hc 1 dX5_numberOf_0 rfl ?_
  refine q_aload_n hc 0 dX5_numberOf_1 rfl ?_
  refine q_get hc 66 1 i5 h66 rfl (by decide) f45 rfl rfl dX5_numberOf_2 ?_
  refine q_iload_n hc 2 dX5_numberOf_5 rfl ?_
  refine q_imulN hc dX5_numberOf_6 ?_
  refine q_iaddN hc dX5_numberOf_7 ?_
  refine q_iload_n hc 3 dX5_numberOf_8 rfl ?_
  refine q_ifz_eq hc 17 dX5_numberOf_9 (by decide) (fun c1 => ?_) (fun c1 => ?_)
  · subst c1
    refine q_iconstN hc 0 dX5_numberOf_17 rfl ?_
    refine q_iaddN hc dX5_numberOf_18 ?_
    exact q_iretP (z := ((x + (w * y) + 0 : Nat) : Int)) hc (rfl) hr hlk dX5_numberOf_19
  · subst c1
    refine q_bipushN hc 64 dX5_numberOf_12 (by decide +kernel) ?_
    refine q_goto hc 18 dX5_numberOf_14 (by decide) ?_
    refine q_iaddN hc dX5_numberOf_18 ?_
    exact q_iretP (z := ((x + (w * y) + 64 : Nat) : Int)) hc (rfl) hr hlk dX5_numberOf_19

set_option maxRecDepth 100000 in
set_option maxHeartbeats 4000000 in
theorem c_X5_is (l : Launch) (D : va_G) (K : Nat → ClassId) (ws : va_W) (ad : Nat → Nat) (w h th nc rc : Nat) (b : Nat) (h66 : ws[66]? = some (ad 66, mO ad w h th nc rc)) (hw2 : 2 ≤ w ∧ w ≤ 8 ∧ 2 ≤ h ∧ h ≤ 8) (hb : b < 128) : MPi l yX5_is wsX5_is ({ frames := 2, cells := 0, slots := 0, locals := 45 }) D K ws [.ref (ad 66), .int (iZ ((b : Nat) : Int))] (fun r => r = (iZ (bZ (isW w h b)))) := by
  refine q_entPi RX5 [(0, .ref (ad 66)), (1, .int (iZ ((b : Nat) : Int)))] (by decide) rfl rfl (Nat.le_of_ble_eq_true rfl) rfl ?_
  intro p e s m args below meth c hc hr hlk
  have i5 : ∀ w ∈ u_ws RX5 TX5 16, w ∈ wsX5_is := by decide +kernel
  have f45 := hc.1.2.2.2.2 (.fieldLink RX5 45 "GlobalRoutesModel" "width" "I") (by decide +kernel)
  refine q_iload_n hc 1 dX5_is_0 rfl ?_
  refine q_bipushN hc 64 dX5_is_1 (by decide +kernel) ?_
  refine q_iremN hc dX5_is_3 (by omega) (by omega) ?_
  refine q_istore_n hc [(2, .int (iZ ((b % 64 : Nat) : Int))), (0, .ref (ad 66)), (1, .int (iZ ((b : Nat) : Int)))] dX5_is_4 rfl (by decide) rfl ?_
  have m1 := Nat.mod_lt (b % 64) (show 0 < w by omega); have m2 := Nat.div_le_self (b % 64) w; have m3 := Int.natCast_nonneg (b % 64 / w)
  refine q_aload_n hc 1 dX5_is_5 rfl ?_
  refine q_iload_n hc 0 dX5_is_6 rfl ?_
  refine q_aload_n hc 1 dX5_is_7 rfl ?_
  refine q_get hc 66 1 i5 h66 rfl (by decide) f45 rfl rfl dX5_is_8 ?_
  refine q_iremN hc dX5_is_11 (by omega) (by omega) ?_
  refine q_iload_n hc 0 dX5_is_12 rfl ?_
  refine q_aload_n hc 1 dX5_is_13 rfl ?_
  refine q_get hc 66 1 i5 h66 rfl (by decide) f45 rfl rfl dX5_is_14 ?_
  refine q_idivN hc dX5_is_17 (by omega) (by omega) ?_
  refine q_iload_n hc 2 dX5_is_18 rfl ?_
  refine q_bipushN hc 64 dX5_is_19 (by decide +kernel) ?_
  refine q_icmpN_lt hc 28 dX5_is_21 (by decide) (by omega) (by omega) (fun c1 => ?_) (fun c1 => ?_)
  · refine q_iconstN hc 0 dX5_is_28 rfl ?_
    refine q_callPz (As := [.int (iZ (((b % 64) % w : Nat) : Int)), .int (iZ (((b % 64) / w : Nat) : Int)), .int (iZ (bZ false))]) (rest := []) hc (c_X5_isBorder l D K ws ad w h th nc rc (((b % 64) % w : Nat) : Int) (((b % 64) / w : Nat) : Int) false h66 hw2 (by omega) (by omega)) (cwV 3 hc.1.2.2.2.2 gX5_is_X5_isBorder rfl rfl rfl (by decide +kernel) ⟨Nat.le_of_ble_eq_true rfl, Nat.le_of_ble_eq_true rfl⟩) 66 h66 rfl rfl rfl (by decide) dX5_is_29 ⟨Nat.zero_le _, Nat.zero_le _⟩ ?_
    exact q_zretP (b := hB w h (((b % 64) % w : Nat) : Int) (((b % 64) / w : Nat) : Int) false) hc (by unfold isW; rw [decide_eq_false (by omega)]) hr hlk dX5_is_32
  · refine q_iconstN hc 1 dX5_is_24 rfl ?_
    refine q_goto hc 29 dX5_is_25 (by decide) ?_
    refine q_callPz (As := [.int (iZ (((b % 64) % w : Nat) : Int)), .int (iZ (((b % 64) / w : Nat) : Int)), .int (iZ (bZ true))]) (rest := []) hc (c_X5_isBorder l D K ws ad w h th nc rc (((b % 64) % w : Nat) : Int) (((b % 64) / w : Nat) : Int) true h66 hw2 (by omega) (by omega)) (cwV 3 hc.1.2.2.2.2 gX5_is_X5_isBorder rfl rfl rfl (by decide +kernel) ⟨Nat.le_of_ble_eq_true rfl, Nat.le_of_ble_eq_true rfl⟩) 66 h66 rfl rfl rfl (by decide) dX5_is_29 ⟨Nat.zero_le _, Nat.zero_le _⟩ ?_
    exact q_zretP (b := hB w h (((b % 64) % w : Nat) : Int) (((b % 64) / w : Nat) : Int) true) hc (by unfold isW; rw [decide_eq_true (by omega)]) hr hlk dX5_is_32

set_option maxRecDepth 100000 in
set_option maxHeartbeats 4000000 in
theorem c_X5_beyond (l : Launch) (D : va_G) (K : Nat → ClassId) (ws : va_W) (ad : Nat → Nat) (w h th nc rc : Nat) (b : Nat) (h66 : ws[66]? = some (ad 66, mO ad w h th nc rc)) (hw2 : 2 ≤ w ∧ w ≤ 8 ∧ 2 ≤ h ∧ h ≤ 8) (hb : b < 128) : MPi l yX5_beyond wsX5_beyond ({ frames := 0, cells := 0, slots := 0, locals := 0 }) D K ws [.ref (ad 66), .int (iZ ((b : Nat) : Int))] (fun r => r = (iZ ((bey w b : Nat) : Int))) := by
  refine q_entPi RX5 [(0, .ref (ad 66)), (1, .int (iZ ((b : Nat) : Int)))] (by decide) rfl rfl (Nat.le_of_ble_eq_true rfl) rfl ?_
  intro p e s m args below meth c hc hr hlk
  have i5 : ∀ w ∈ u_ws RX5 TX5 16, w ∈ wsX5_beyond := by decide +kernel
  have f45 := hc.1.2.2.2.2 (.fieldLink RX5 45 "GlobalRoutesModel" "width" "I") (by decide +kernel)
  refine q_iload_n hc 1 dX5_beyond_0 rfl ?_
  refine q_bipushN hc 64 dX5_beyond_1 (by decide +kernel) ?_
  refine q_iremN hc dX5_beyond_3 (by omega) (by omega) ?_
  refine q_iload_n hc 1 dX5_beyond_4 rfl ?_
  refine q_bipushN hc 64 dX5_beyond_5 (by decide +kernel) ?_
  refine q_icmpN_lt hc 17 dX5_beyond_7 (by decide) (by omega) (by omega) (fun c1 => ?_) (fun c1 => ?_)
  · refine q_iconstN hc 1 dX5_beyond_17 rfl ?_
    refine q_iaddN hc dX5_beyond_18 ?_
    exact q_iretP (z := ((b % 64 + 1 : Nat) : Int)) hc (congrArg (fun a : Nat => iZ ((a : Nat) : Int)) (by unfold bey; rw [if_pos (by omega)])) hr hlk dX5_beyond_19
  · refine q_aload_n hc 0 dX5_beyond_10 rfl ?_
    refine q_get hc 66 1 i5 h66 rfl (by decide) f45 rfl rfl dX5_beyond_11 ?_
    refine q_goto hc 18 dX5_beyond_14 (by decide) ?_
    refine q_iaddN hc dX5_beyond_18 ?_
    exact q_iretP (z := ((b % 64 + w : Nat) : Int)) hc (congrArg (fun a : Nat => iZ ((a : Nat) : Int)) (by unfold bey; rw [if_neg (by omega)])) hr hlk dX5_beyond_19

set_option maxRecDepth 100000 in
set_option maxHeartbeats 4000000 in
theorem c_X5_isNet (l : Launch) (D : va_G) (K : Nat → ClassId) (ws : va_W) (ad : Nat → Nat) (w h th nc rc : Nat) (num : Int) (h66 : ws[66]? = some (ad 66, mO ad w h th nc rc)) (hnc : nc ≤ 12) (hnum : -2147483648 ≤ num ∧ num < 2147483648) : MPi l yX5_isNet wsX5_isNet ({ frames := 0, cells := 0, slots := 0, locals := 0 }) D K ws [.ref (ad 66), .int (iZ num)] (fun r => r = (iZ (bZ (decide (0 ≤ num ∧ num < (nc : Int)))))) := by
  refine q_entPi RX5 [(0, .ref (ad 66)), (1, .int (iZ num))] (by decide) rfl rfl (Nat.le_of_ble_eq_true rfl) rfl ?_
  intro p e s m args below meth c hc hr hlk
  have i5 : ∀ w ∈ u_ws RX5 TX5 16, w ∈ wsX5_isNet := by decide +kernel
  have f63 := hc.1.2.2.2.2 (.fieldLink RX5 63 "GlobalRoutesModel" "nets" "I") (by decide +kernel)
  refine q_iload_n hc 1 dX5_isNet_0 rfl ?_
  refine q_if_lt hc 16 dX5_isNet_1 (by decide) (by omega) (fun c1 => ?_) (fun c1 => ?_)
  · refine q_iconstN hc 0 dX5_isNet_16 rfl ?_
    exact q_zretP (b := false) hc (congrArg (fun b => iZ (bZ b)) (decide_eq_false (by omega)).symm) hr hlk dX5_isNet_17
  · refine q_iload_n hc 1 dX5_isNet_4 rfl ?_
    refine q_aload_n hc 0 dX5_isNet_5 rfl ?_
    refine q_get hc 66 5 i5 h66 rfl (by decide) f63 rfl rfl dX5_isNet_6 ?_
    refine q_icmp_ge hc 16 dX5_isNet_9 (by decide) (by omega) (by omega) (fun c2 => ?_) (fun c2 => ?_)
    · refine q_iconstN hc 0 dX5_isNet_16 rfl ?_
      exact q_zretP (b := false) hc (congrArg (fun b => iZ (bZ b)) (decide_eq_false (by omega)).symm) hr hlk dX5_isNet_17
    · refine q_iconstN hc 1 dX5_isNet_12 rfl ?_
      refine q_goto hc 17 dX5_isNet_13 (by decide) ?_
      exact q_zretP (b := true) hc (congrArg (fun b => iZ (bZ b)) (decide_eq_true (by omega)).symm) hr hlk dX5_isNet_17

set_option maxRecDepth 100000 in
set_option maxHeartbeats 4000000 in
theorem c_X5_straight (l : Launch) (D : va_G) (K : Nat → ClassId) (ws : va_W) (ad : Nat → Nat) (w h th nc rc : Nat) (a b : Nat) (h66 : ws[66]? = some (ad 66, mO ad w h th nc rc)) (hw2 : 2 ≤ w ∧ w ≤ 8 ∧ 2 ≤ h ∧ h ≤ 8) (hab : a < 64 ∧ b < 64) : MPi l yX5_straight wsX5_straight ({ frames := 0, cells := 0, slots := 0, locals := 0 }) D K ws [.ref (ad 66), .int (iZ ((a : Nat) : Int)), .int (iZ ((b : Nat) : Int))] (fun r => r = (iZ ((mh w a b : Nat) : Int))) := by
  refine q_entPi RX5 [(0, .ref (ad 66)), (1, .int (iZ ((a : Nat) : Int))), (2, .int (iZ ((b : Nat) : Int)))] (by decide) rfl rfl (Nat.le_of_ble_eq_true rfl) rfl ?_
  intro p e s m args below meth c hc hr hlk
  have i5 : ∀ w ∈ u_ws RX5 TX5 16, w ∈ wsX5_straight := by decide +kernel
  have f45 := hc.1.2.2.2.2 (.fieldLink RX5 45 "GlobalRoutesModel" "width" "I") (by decide +kernel)
  have m1 := Nat.mod_lt a (show 0 < w by omega); have m2 := Nat.mod_lt b (show 0 < w by omega); have m3 := Nat.div_le_self a w; have m4 := Nat.div_le_self b w; have m5 := Int.natCast_nonneg (a / w); have m6 := Int.natCast_nonneg (b / w)
  refine q_iload_n hc 1 dX5_straight_0 rfl ?_
  refine q_aload_n hc 0 dX5_straight_1 rfl ?_
  refine q_get hc 66 1 i5 h66 rfl (by decide) f45 rfl rfl dX5_straight_2 ?_
  refine q_iremN hc dX5_straight_5 (by omega) (by omega) ?_
  refine q_iload_n hc 2 dX5_straight_6 rfl ?_
  refine q_aload_n hc 0 dX5_straight_7 rfl ?_
  refine q_get hc 66 1 i5 h66 rfl (by decide) f45 rfl rfl dX5_straight_8 ?_
  refine q_iremN hc dX5_straight_11 (by omega) (by omega) ?_
  refine q_isub hc dX5_straight_12 ?_
  refine q_istore_n hc [(3, .int (iZ (((a % w : Nat) : Int) - ((b % w : Nat) : Int)))), (0, .ref (ad 66)), (1, .int (iZ ((a : Nat) : Int))), (2, .int (iZ ((b : Nat) : Int)))] dX5_straight_13 rfl (by decide) rfl ?_
  refine q_iload_n hc 2 dX5_straight_14 rfl ?_
  refine q_aload_n hc 1 dX5_straight_15 rfl ?_
  refine q_get hc 66 1 i5 h66 rfl (by decide) f45 rfl rfl dX5_straight_16 ?_
  refine q_idivN hc dX5_straight_19 (by omega) (by omega) ?_
  refine q_iload_n hc 3 dX5_straight_20 rfl ?_
  refine q_aload_n hc 1 dX5_straight_21 rfl ?_
  refine q_get hc 66 1 i5 h66 rfl (by decide) f45 rfl rfl dX5_straight_22 ?_
  refine q_idivN hc dX5_straight_25 (by omega) (by omega) ?_
  refine q_isub hc dX5_straight_26 ?_
  refine q_istore hc [(4, .int (iZ (((a / w : Nat) : Int) - ((b / w : Nat) : Int)))), (3, .int (iZ (((a % w : Nat) : Int) - ((b % w : Nat) : Int)))), (0, .ref (ad 66)), (1, .int (iZ ((a : Nat) : Int))), (2, .int (iZ ((b : Nat) : Int)))] dX5_straight_27 (by decide) rfl ?_
  refine q_iload_n hc 1 dX5_straight_29 rfl ?_
  refine q_if_ge hc 38 dX5_straight_30 (by decide) (by omega) (fun c1 => ?_) (fun c1 => ?_)
  · refine q_iload_n hc 1 dX5_straight_38 rfl ?_
    refine q_iload hc 0 dX5_straight_39 rfl ?_
    refine q_if_ge hc 50 dX5_straight_41 (by decide) (by omega) (fun c2 => ?_) (fun c2 => ?_)
    · refine q_iload hc 0 dX5_straight_50 rfl ?_
      refine q_iadd hc dX5_straight_52 ?_
      exact q_iretP (z := (((a % w : Nat) : Int) - ((b % w : Nat) : Int)) + (((a / w : Nat) : Int) - ((b / w : Nat) : Int))) hc (congrArg iZ (by unfold mh; generalize a % w = q1 at *; generalize b % w = q2 at *; generalize a / w = q3 at *; generalize b / w = q4 at *; omega)) hr hlk dX5_straight_53
    · refine q_iload hc 0 dX5_straight_44 rfl ?_
      refine q_ineg hc dX5_straight_46 ?_
      refine q_goto hc 52 dX5_straight_47 (by decide) ?_
      refine q_iadd hc dX5_straight_52 ?_
      exact q_iretP (z := (((a % w : Nat) : Int) - ((b % w : Nat) : Int)) + (-(((a / w : Nat) : Int) - ((b / w : Nat) : Int)))) hc (congrArg iZ (by unfold mh; generalize a % w = q1 at *; generalize b % w = q2 at *; generalize a / w = q3 at *; generalize b / w = q4 at *; omega)) hr hlk dX5_straight_53
  · refine q_iload_n hc 1 dX5_straight_33 rfl ?_
    refine q_ineg hc dX5_straight_34 ?_
    refine q_goto hc 39 dX5_straight_35 (by decide) ?_
    refine q_iload hc 0 dX5_straight_39 rfl ?_
    refine q_if_ge hc 50 dX5_straight_41 (by decide) (by omega) (fun c3 => ?_) (fun c3 => ?_)
    · refine q_iload hc 0 dX5_straight_50 rfl ?_
      refine q_iadd hc dX5_straight_52 ?_
      exact q_iretP (z := (-(((a % w : Nat) : Int) - ((b % w : Nat) : Int))) + (((a / w : Nat) : Int) - ((b / w : Nat) : Int))) hc (congrArg iZ (by unfold mh; generalize a % w = q1 at *; generalize b % w = q2 at *; generalize a / w = q3 at *; generalize b / w = q4 at *; omega)) hr hlk dX5_straight_53
    · refine q_iload hc 0 dX5_straight_44 rfl ?_
      refine q_ineg hc dX5_straight_46 ?_
      refine q_goto hc 52 dX5_straight_47 (by decide) ?_
      refine q_iadd hc dX5_straight_52 ?_
      exact q_iretP (z := (-(((a % w : Nat) : Int) - ((b % w : Nat) : Int))) + (-(((a / w : Nat) : Int) - ((b / w : Nat) : Int)))) hc (congrArg iZ (by unfold mh; generalize a % w = q1 at *; generalize b % w = q2 at *; generalize a / w = q3 at *; generalize b / w = q4 at *; omega)) hr hlk dX5_straight_53

set_option maxRecDepth 100000 in
set_option maxHeartbeats 4000000 in
theorem c_X5_use (l : Launch) (D : va_G) (K : Nat → ClassId) (ws : va_W) (ad : Nat → Nat) (w h n th nc rc : Nat) (b : Nat) (us : Nat → Nat) (ro : Nat → Nat → Bool) (h66 : ws[66]? = some (ad 66, mO ad w h th nc rc)) (m72 : ws[72]? = some (ad 72, zA K 1536 (mRo n ro))) (hb : b < 128) (hnc : nc ≤ 12) (hUC : UC n nc us ro) : MPi l yX5_use wsX5_use ({ frames := 0, cells := 0, slots := 0, locals := 0 }) D K ws [.ref (ad 66), .int (iZ ((b : Nat) : Int))] (fun r => r = (iZ ((mA n 0 us b : Nat) : Int))) := by
  refine q_entPi RX5 [(0, .ref (ad 66)), (1, .int (iZ ((b : Nat) : Int)))] (by decide) rfl rfl (Nat.le_of_ble_eq_true rfl) rfl ?_
  intro p e s m args below meth c hc hr hlk
  have i5 : ∀ w ∈ u_ws RX5 TX5 16, w ∈ wsX5_use := by decide +kernel
  have f63 := hc.1.2.2.2.2 (.fieldLink RX5 63 "GlobalRoutesModel" "nets" "I") (by decide +kernel)
  have f26 := hc.1.2.2.2.2 (.fieldLink RX5 26 "GlobalRoutesModel" "routes" "[Z") (by decide +kernel)
  refine q_iconstN hc 0 dX5_use_0 rfl ?_
  refine q_istore_n hc [(2, .int (iZ ((0 : Nat) : Int))), (0, .ref (ad 66)), (1, .int (iZ ((b : Nat) : Int)))] dX5_use_1 rfl (by decide) rfl ?_
  refine q_iconstN hc 0 dX5_use_2 rfl ?_
  refine q_istore_n hc [(3, .int (iZ ((0 : Nat) : Int))), (2, .int (iZ ((0 : Nat) : Int))), (0, .ref (ad 66)), (1, .int (iZ ((b : Nat) : Int)))] dX5_use_3 rfl (by decide) rfl ?_
  refine V.sub [2, 3, 1, 0] rfl ?_
  refine V.loopP (α := Nat × Nat) (fun x => nc - x.1) (fun x => (x.1 ≤ nc) ∧ (x.2 = cnt (fun q => mR n (ro q) b) x.1)) (fun x => [(0, .ref (ad 66)), (1, .int (iZ ((b : Nat) : Int))), (2, .int (iZ ((x.2 : Nat) : Int))), (3, .int (iZ ((x.1 : Nat) : Int)))]) (0, 0) ⟨(Nat.zero_le _), (rfl)⟩ rfl ?_
  intro x ih4 hI
  obtain ⟨i, a⟩ := x
  try dsimp only at ih4 hI ⊢
  obtain ⟨hi0, ha⟩ := hI
  refine q_iload_n hc 3 dX5_use_4 rfl ?_
  refine q_aload_n hc 0 dX5_use_5 rfl ?_
  refine q_get hc 66 5 i5 h66 rfl (by decide) f63 rfl rfl dX5_use_6 ?_
  refine q_icmpN_ge hc 41 dX5_use_9 (by decide) (by omega) (by omega) (fun c2 => ?_) (fun c2 => ?_)
  · refine q_iload_n hc 2 dX5_use_41 rfl ?_
    exact q_iretP (z := ((a : Nat) : Int)) hc (by rw [ha, show i = nc by omega, use_eq hUC hb]) hr hlk dX5_use_42
  · refine q_iload_n hc 2 dX5_use_12 rfl ?_
    refine q_aload_n hc 0 dX5_use_13 rfl ?_
    refine q_get hc 66 9 i5 h66 rfl (by decide) f26 rfl rfl dX5_use_14 ?_
    refine q_sipushN hc 128 dX5_use_17 (by decide +kernel) ?_
    refine q_iload_n hc 3 dX5_use_20 rfl ?_
    refine q_imulN hc dX5_use_21 ?_
    refine q_iload_n hc 1 dX5_use_22 rfl ?_
    refine q_iaddN hc dX5_use_23 ?_
    refine q_zald (j := 128 * i + b) hc 72 m72 rfl (by omega) (by omega) dX5_use_24 ?_
    refine q_ifz_eq hc 32 dX5_use_25 (by decide) (fun c3 => ?_) (fun c3 => ?_)
    · refine q_iconstN hc 0 dX5_use_32 rfl ?_
      refine q_iaddN hc dX5_use_33 ?_
      refine q_istore_n hc [(2, .int (iZ ((a + 0 : Nat) : Int))), (0, .ref (ad 66)), (1, .int (iZ ((b : Nat) : Int))), (3, .int (iZ ((i : Nat) : Int)))] dX5_use_34 rfl (by decide) rfl ?_
      refine q_iincN (q := 3) hc 1 [(3, .int (iZ ((i + 1 : Nat) : Int))), (2, .int (iZ ((a + 0 : Nat) : Int))), (0, .ref (ad 66)), (1, .int (iZ ((b : Nat) : Int)))] dX5_use_35 rfl rfl (by decide) rfl ?_
      refine q_goto hc 4 dX5_use_38 (by decide) ?_
      refine V.sub [2, 3, 1, 0] rfl ?_
      exact ih4 (i + 1, a + 0) (by omega) ⟨(by omega), (by rw [cnt_s, ha, ← mRo_at hb, c3]; rfl)⟩
    · refine q_iconstN hc 1 dX5_use_28 rfl ?_
      refine q_goto hc 33 dX5_use_29 (by decide) ?_
      refine q_iaddN hc dX5_use_33 ?_
      refine q_istore_n hc [(2, .int (iZ ((a + 1 : Nat) : Int))), (0, .ref (ad 66)), (1, .int (iZ ((b : Nat) : Int))), (3, .int (iZ ((i : Nat) : Int)))] dX5_use_34 rfl (by decide) rfl ?_
      refine q_iincN (q := 3) hc 1 [(3, .int (iZ ((i + 1 : Nat) : Int))), (2, .int (iZ ((a + 1 : Nat) : Int))), (0, .ref (ad 66)), (1, .int (iZ ((b : Nat) : Int)))] dX5_use_35 rfl rfl (by decide) rfl ?_
      refine q_goto hc 4 dX5_use_38 (by decide) ?_
      refine V.sub [2, 3, 1, 0] rfl ?_
      exact ih4 (i + 1, a + 1) (by omega) ⟨(by omega), (by rw [cnt_s, ha, ← mRo_at hb, c3]; rfl)⟩

set_option maxRecDepth 100000 in
set_option maxHeartbeats 4000000 in
theorem c_X5_over (l : Launch) (D : va_G) (K : Nat → ClassId) (ws : va_W) (ad : Nat → Nat) (w h n th nc rc : Nat) (b c0 : Nat) (cap us : Nat → Nat) (ro : Nat → Nat → Bool) (h66 : ws[66]? = some (ad 66, mO ad w h th nc rc)) (m67 : ws[67]? = some (ad 67, iN K 128 (mA n c0 cap))) (m72 : ws[72]? = some (ad 72, zA K 1536 (mRo n ro))) (hb : b < 128) (hnc : nc ≤ 12) (hUC : UC n nc us ro) (hc0 : c0 ≤ 20) (hcap : ∀ k, k < 2 * n → cap k ≤ 20) (hus : ∀ k, k < 2 * n → us k ≤ 12) : MPi l yX5_over wsX5_over ({ frames := 1, cells := 0, slots := 0, locals := 23 }) D K ws [.ref (ad 66), .int (iZ ((b : Nat) : Int))] (fun r => r = (iZ ((mA n 0 (fun k => us k - cap k) b : Nat) : Int))) := by
  refine q_entPi RX5 [(0, .ref (ad 66)), (1, .int (iZ ((b : Nat) : Int)))] (by decide) rfl rfl (Nat.le_of_ble_eq_true rfl) rfl ?_
  intro p e s m args below meth c hc hr hlk
  have i5 : ∀ w ∈ u_ws RX5 TX5 16, w ∈ wsX5_over := by decide +kernel
  have f7 := hc.1.2.2.2.2 (.fieldLink RX5 7 "GlobalRoutesModel" "capacities" "[I") (by decide +kernel)
  have u1 := mA_bd (z := 0) hus (by omega) hb; have u2 := mA_bd hcap hc0 hb; have u3 := mA_sub (n := n) (c0 := c0) (us := us) (cap := cap) b
  refine q_aload_n hc 0 dX5_over_0 rfl ?_
  refine q_iload_n hc 1 dX5_over_1 rfl ?_
  refine q_callPn (As := [.int (iZ ((b : Nat) : Int))]) (rest := []) hc (c_X5_use l D K ws ad w h n th nc rc b _ ro h66 m72 (by omega) hnc hUC) (cwV 1 hc.1.2.2.2.2 gX5_over_X5_use rfl rfl rfl (by decide +kernel) ⟨Nat.le_of_ble_eq_true rfl, Nat.le_of_ble_eq_true rfl⟩) 66 h66 rfl rfl rfl (by decide) dX5_over_2 ⟨Nat.zero_le _, Nat.zero_le _⟩ ?_
  refine q_aload_n hc 0 dX5_over_5 rfl ?_
  refine q_get hc 66 3 i5 h66 rfl (by decide) f7 rfl rfl dX5_over_6 ?_
  refine q_iload_n hc 1 dX5_over_9 rfl ?_
  refine q_ialdN (j := b) hc 67 m67 rfl (by omega) (by omega) dX5_over_10 ?_
  refine q_isub hc dX5_over_11 ?_
  refine q_istore_n hc [(2, .int (iZ (((mA n 0 us b : Nat) : Int) - (((mA n c0 cap) b : Nat) : Int)))), (0, .ref (ad 66)), (1, .int (iZ ((b : Nat) : Int)))] dX5_over_12 rfl (by decide) rfl ?_
  refine q_iload_n hc 0 dX5_over_13 rfl ?_
  refine q_if_le hc 21 dX5_over_14 (by decide) (by omega) (fun c3 => ?_) (fun c3 => ?_)
  · refine q_iconstN hc 0 dX5_over_21 rfl ?_
    exact q_iretP (z := ((0 : Nat) : Int)) hc (congrArg iZ (by omega)) hr hlk dX5_over_22
  · refine q_iload_n hc 0 dX5_over_17 rfl ?_
    refine q_goto hc 22 dX5_over_18 (by decide) ?_
    exact q_iretP (z := ((mA n 0 us b : Nat) : Int) - (((mA n c0 cap) b : Nat) : Int)) hc (congrArg iZ (by omega)) hr hlk dX5_over_22

set_option maxRecDepth 100000 in
set_option maxHeartbeats 4000000 in
theorem c_X5_cost (l : Launch) (D : va_G) (K : Nat → ClassId) (ws : va_W) (ad : Nat → Nat) (w h n th nc rc : Nat) (b c0 : Nat) (cap us : Nat → Nat) (hi : Nat → Nat) (ro : Nat → Nat → Bool) (h66 : ws[66]? = some (ad 66, mO ad w h th nc rc)) (m67 : ws[67]? = some (ad 67, iN K 128 (mA n c0 cap))) (m68 : ws[68]? = some (ad 68, iN K 128 (mA n 0 hi))) (m72 : ws[72]? = some (ad 72, zA K 1536 (mRo n ro))) (hb : b < 128) (hnc : nc ≤ 12) (hUC : UC n nc us ro) (hc0 : c0 ≤ 20) (hcap : ∀ k, k < 2 * n → cap k ≤ 20) (hus : ∀ k, k < 2 * n → us k ≤ 12) (hhi : ∀ k, k < 2 * n → hi k ≤ 5120) : MPl l yX5_cost wsX5_cost ({ frames := 1, cells := 0, slots := 0, locals := 23 }) D K ws [.ref (ad 66), .int (iZ ((b : Nat) : Int))] (fun r => r = (jZ ((1 + mA n 0 hi b + 4 * (mA n 0 us b + 1 - mA n c0 cap b) : Nat) : Int))) := by
  refine q_entPl RX5 [(0, .ref (ad 66)), (1, .int (iZ ((b : Nat) : Int)))] (by decide) rfl rfl (Nat.le_of_ble_eq_true rfl) rfl ?_
  intro p e s m args below meth c hc hr hlk
  have i5 : ∀ w ∈ u_ws RX5 TX5 16, w ∈ wsX5_cost := by decide +kernel
  have f7 := hc.1.2.2.2.2 (.fieldLink RX5 7 "GlobalRoutesModel" "capacities" "[I") (by decide +kernel)
  have f13 := hc.1.2.2.2.2 (.fieldLink RX5 13 "GlobalRoutesModel" "histories" "[I") (by decide +kernel)
  have k85 : (Jvm.Cond.constantLong RX5 85 (jZ 4)).before args s = true := hc.1.2.2.2.2 (.constantLong RX5 85 (4)) (by decide +kernel)
  have u1 := mA_bd (z := 0) hus (by omega) hb; have u2 := mA_bd hcap hc0 hb; have u4 := mA_bd (z := 0) hhi (by omega) hb
  refine q_aload_n hc 0 dX5_cost_0 rfl ?_
  refine q_iload_n hc 1 dX5_cost_1 rfl ?_
  refine q_callPn (As := [.int (iZ ((b : Nat) : Int))]) (rest := []) hc (c_X5_use l D K ws ad w h n th nc rc b _ ro h66 m72 (by omega) hnc hUC) (cwV 1 hc.1.2.2.2.2 gX5_cost_X5_use rfl rfl rfl (by decide +kernel) ⟨Nat.le_of_ble_eq_true rfl, Nat.le_of_ble_eq_true rfl⟩) 66 h66 rfl rfl rfl (by decide) dX5_cost_2 ⟨Nat.zero_le _, Nat.zero_le _⟩ ?_
  refine q_iconstN hc 1 dX5_cost_5 rfl ?_
  refine q_iaddN hc dX5_cost_6 ?_
  refine q_aload_n hc 0 dX5_cost_7 rfl ?_
  refine q_get hc 66 3 i5 h66 rfl (by decide) f7 rfl rfl dX5_cost_8 ?_
  refine q_iload_n hc 1 dX5_cost_11 rfl ?_
  refine q_ialdN (j := b) hc 67 m67 rfl (by omega) (by omega) dX5_cost_12 ?_
  refine q_isub hc dX5_cost_13 ?_
  refine q_istore_n hc [(2, .int (iZ (((mA n 0 us b + 1 : Nat) : Int) - (((mA n c0 cap) b : Nat) : Int)))), (0, .ref (ad 66)), (1, .int (iZ ((b : Nat) : Int)))] dX5_cost_14 rfl (by decide) rfl ?_
  refine q_lconst (z := 1) hc dX5_cost_15 (by decide +kernel) ?_
  refine q_aload_n hc 1 dX5_cost_16 rfl ?_
  refine q_get hc 66 4 i5 h66 rfl (by decide) f13 rfl rfl dX5_cost_17 ?_
  refine q_iload_n hc 2 dX5_cost_20 rfl ?_
  refine q_ialdN (j := b) hc 68 m68 rfl (by omega) (by omega) dX5_cost_21 ?_
  refine q_i2l hc dX5_cost_22 (by omega) ?_
  refine q_ladd hc dX5_cost_23 ?_
  refine q_iload_n hc 0 dX5_cost_24 rfl ?_
  refine q_if_le hc 37 dX5_cost_25 (by decide) (by omega) (fun c3 => ?_) (fun c3 => ?_)
  · refine q_lconst (z := 0) hc dX5_cost_37 (by decide +kernel) ?_
    refine q_ladd hc dX5_cost_38 ?_
    exact q_lretP (z := (1 + (((mA n 0 hi) b : Nat) : Int)) + 0) hc (congrArg jZ (by omega)) hr hlk dX5_cost_39
  · refine q_ldc2 (z := 4) hc dX5_cost_28 k85 ?_
    refine q_iload_n hc 0 dX5_cost_31 rfl ?_
    refine q_i2l hc dX5_cost_32 (by omega) ?_
    refine q_lmul hc dX5_cost_33 ?_
    refine q_goto hc 38 dX5_cost_34 (by decide) ?_
    refine q_ladd hc dX5_cost_38 ?_
    exact q_lretP (z := (1 + (((mA n 0 hi) b : Nat) : Int)) + (4 * (((mA n 0 us b + 1 : Nat) : Int) - (((mA n c0 cap) b : Nat) : Int)))) hc (congrArg jZ (by omega)) hr hlk dX5_cost_39

set_option maxRecDepth 100000 in
set_option maxHeartbeats 4000000 in
theorem c_X5_lengthOf (l : Launch) (D : va_G) (K : Nat → ClassId) (ws : va_W) (ad : Nat → Nat) (w h n th nc rc : Nat) (t : Nat) (ro : Nat → Nat → Bool) (h66 : ws[66]? = some (ad 66, mO ad w h th nc rc)) (m72 : ws[72]? = some (ad 72, zA K 1536 (mRo n ro))) (ht : t < 12) (hn : n ≤ 64) : MPi l yX5_lengthOf wsX5_lengthOf ({ frames := 0, cells := 0, slots := 0, locals := 0 }) D K ws [.ref (ad 66), .int (iZ ((t : Nat) : Int))] (fun r => r = (iZ ((cnt (ro t) (2 * n) : Nat) : Int))) := by
  refine q_entPi RX5 [(0, .ref (ad 66)), (1, .int (iZ ((t : Nat) : Int)))] (by decide) rfl rfl (Nat.le_of_ble_eq_true rfl) rfl ?_
  intro p e s m args below meth c hc hr hlk
  have i5 : ∀ w ∈ u_ws RX5 TX5 16, w ∈ wsX5_lengthOf := by decide +kernel
  have f26 := hc.1.2.2.2.2 (.fieldLink RX5 26 "GlobalRoutesModel" "routes" "[Z") (by decide +kernel)
  refine q_iconstN hc 0 dX5_lengthOf_0 rfl ?_
  refine q_istore_n hc [(2, .int (iZ ((0 : Nat) : Int))), (0, .ref (ad 66)), (1, .int (iZ ((t : Nat) : Int)))] dX5_lengthOf_1 rfl (by decide) rfl ?_
  refine q_iconstN hc 0 dX5_lengthOf_2 rfl ?_
  refine q_istore_n hc [(3, .int (iZ ((0 : Nat) : Int))), (2, .int (iZ ((0 : Nat) : Int))), (0, .ref (ad 66)), (1, .int (iZ ((t : Nat) : Int)))] dX5_lengthOf_3 rfl (by decide) rfl ?_
  refine V.sub [2, 3, 1, 0] rfl ?_
  refine V.loopP (α := Nat × Nat) (fun x => 128 - x.1) (fun x => (x.1 ≤ 128) ∧ (x.2 = cnt (mR n (ro t)) x.1)) (fun x => [(0, .ref (ad 66)), (1, .int (iZ ((t : Nat) : Int))), (2, .int (iZ ((x.2 : Nat) : Int))), (3, .int (iZ ((x.1 : Nat) : Int)))]) (0, 0) ⟨(Nat.zero_le _), (rfl)⟩ rfl ?_
  intro x ih4 hI
  obtain ⟨i, a⟩ := x
  try dsimp only at ih4 hI ⊢
  obtain ⟨hi0, ha⟩ := hI
  refine q_iload_n hc 3 dX5_lengthOf_4 rfl ?_
  refine q_sipushN hc 128 dX5_lengthOf_5 (by decide +kernel) ?_
  refine q_icmpN_ge hc 40 dX5_lengthOf_8 (by decide) (by omega) (by omega) (fun c2 => ?_) (fun c2 => ?_)
  · refine q_iload_n hc 2 dX5_lengthOf_40 rfl ?_
    exact q_iretP (z := ((a : Nat) : Int)) hc (by rw [ha, show i = 128 by omega, cnt_ub hn]) hr hlk dX5_lengthOf_41
  · refine q_iload_n hc 2 dX5_lengthOf_11 rfl ?_
    refine q_aload_n hc 0 dX5_lengthOf_12 rfl ?_
    refine q_get hc 66 9 i5 h66 rfl (by decide) f26 rfl rfl dX5_lengthOf_13 ?_
    refine q_sipushN hc 128 dX5_lengthOf_16 (by decide +kernel) ?_
    refine q_iload_n hc 1 dX5_lengthOf_19 rfl ?_
    refine q_imulN hc dX5_lengthOf_20 ?_
    refine q_iload_n hc 3 dX5_lengthOf_21 rfl ?_
    refine q_iaddN hc dX5_lengthOf_22 ?_
    refine q_zald (j := 128 * t + i) hc 72 m72 rfl (by omega) (by omega) dX5_lengthOf_23 ?_
    refine q_ifz_eq hc 31 dX5_lengthOf_24 (by decide) (fun c3 => ?_) (fun c3 => ?_)
    · refine q_iconstN hc 0 dX5_lengthOf_31 rfl ?_
      refine q_iaddN hc dX5_lengthOf_32 ?_
      refine q_istore_n hc [(2, .int (iZ ((a + 0 : Nat) : Int))), (0, .ref (ad 66)), (1, .int (iZ ((t : Nat) : Int))), (3, .int (iZ ((i : Nat) : Int)))] dX5_lengthOf_33 rfl (by decide) rfl ?_
      refine q_iincN (q := 3) hc 1 [(3, .int (iZ ((i + 1 : Nat) : Int))), (2, .int (iZ ((a + 0 : Nat) : Int))), (0, .ref (ad 66)), (1, .int (iZ ((t : Nat) : Int)))] dX5_lengthOf_34 rfl rfl (by decide) rfl ?_
      refine q_goto hc 4 dX5_lengthOf_37 (by decide) ?_
      refine V.sub [2, 3, 1, 0] rfl ?_
      exact ih4 (i + 1, a + 0) (by omega) ⟨(by omega), (by rw [cnt_s, ha, ← mRo_at (show i < 128 by omega), c3]; rfl)⟩
    · refine q_iconstN hc 1 dX5_lengthOf_27 rfl ?_
      refine q_goto hc 32 dX5_lengthOf_28 (by decide) ?_
      refine q_iaddN hc dX5_lengthOf_32 ?_
      refine q_istore_n hc [(2, .int (iZ ((a + 1 : Nat) : Int))), (0, .ref (ad 66)), (1, .int (iZ ((t : Nat) : Int))), (3, .int (iZ ((i : Nat) : Int)))] dX5_lengthOf_33 rfl (by decide) rfl ?_
      refine q_iincN (q := 3) hc 1 [(3, .int (iZ ((i + 1 : Nat) : Int))), (2, .int (iZ ((a + 1 : Nat) : Int))), (0, .ref (ad 66)), (1, .int (iZ ((t : Nat) : Int)))] dX5_lengthOf_34 rfl rfl (by decide) rfl ?_
      refine q_goto hc 4 dX5_lengthOf_37 (by decide) ?_
      refine V.sub [2, 3, 1, 0] rfl ?_
      exact ih4 (i + 1, a + 1) (by omega) ⟨(by omega), (by rw [cnt_s, ha, ← mRo_at (show i < 128 by omega), c3]; rfl)⟩
