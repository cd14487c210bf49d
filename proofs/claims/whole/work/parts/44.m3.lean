
set_option maxRecDepth 100000 in
set_option maxHeartbeats 4000000 in
theorem c_X5_capacity (l : Launch) (D : va_G) (K : Nat → ClassId) (ws : va_W) (ad : Nat → Nat) (w h n th nc rc : Nat) (x y : Int) (d : Bool) (c1 : Int) (c0 : Nat) (cap : Nat → Nat) (h66 : ws[66]? = some (ad 66, mO ad w h th nc rc)) (m67 : ws[67]? = some (ad 67, iN K 128 (mA n c0 cap))) (hn : n ≤ 64) (hw2 : 2 ≤ w ∧ w ≤ 8 ∧ 2 ≤ h ∧ h ≤ 8) (hx : -2147483648 ≤ x ∧ x < 2147483648) (hy : -2147483648 ≤ y ∧ y < 2147483648) (hc1 : -2147483648 ≤ c1 ∧ c1 < 2147483648) (hxy : ∀ x y, x < w → y < h → x + w * y < n) (hok : hB w h x y d = true) (hcr : 0 ≤ c1 ∧ c1 ≤ 20) : MMi l yX5_capacity wsX5_capacity ({ frames := 2, cells := 0, slots := 0, locals := 45 }) D K ws [.ref (ad 66), .int (iZ x), .int (iZ y), .int (iZ (bZ d)), .int (iZ c1)] (fun r u => (r = (iZ ((cap (bIx w x y d) : Nat) : Int))) ∧ (u[66]? = some (ad 66, mO ad w h 0 nc rc)) ∧ (u[67]? = some (ad 67, iN K 128 (mA n c0 (va_up cap (bIx w x y d) c1.toNat)))) ∧ (Fr (fun j => j = 66 ∨ j = 67) ws u)) := by
  refine q_entMi RX5 [(0, .ref (ad 66)), (1, .int (iZ x)), (2, .int (iZ y)), (3, .int (iZ (bZ d))), (4, .int (iZ c1))] (by decide) rfl rfl (Nat.le_of_ble_eq_true rfl) rfl ?_
  intro p e s m args below meth c hc hr hlk
  have i5 : ∀ w ∈ u_ws RX5 TX5 16, w ∈ wsX5_capacity := by decide +kernel
  have f52 := hc.1.2.2.2.2 (.fieldLink RX5 52 "GlobalRoutesModel" "thrown" "I") (by decide +kernel)
  have f7 := hc.1.2.2.2.2 (.fieldLink RX5 7 "GlobalRoutesModel" "capacities" "[I") (by decide +kernel)
  have fr0 : Fr (fun j => j = 66 ∨ j = 67) ws ws := Fr.rfl
  refine q_aload_n hc 0 dX5_capacity_0 rfl ?_
  refine q_iconstN hc 0 dX5_capacity_1 rfl ?_
  refine q_put (ty := .int) hc 66 0 i5 tyX5 tyX5_ok nmX5 h66 rfl (by decide) f52 rfl rfl (by decide +kernel) rfl rfl (Nat.le_of_ble_eq_true rfl) rfl dX5_capacity_2 (fun u1 hn' hf' => ?_)
  have hq2 : u1[66]? = some (ad 66, mO ad w h 0 nc rc) := hn'
  have hq3 := (hf' 67 (by omega)).trans m67
  have fr4 := Fr.one hf'
  refine q_aload_n hc 0 dX5_capacity_5 rfl ?_
  refine q_aload_n hc 0 dX5_capacity_6 rfl ?_
  refine q_iload_n hc 1 dX5_capacity_7 rfl ?_
  refine q_iload_n hc 2 dX5_capacity_8 rfl ?_
  refine q_iload_n hc 3 dX5_capacity_9 rfl ?_
  refine q_callPz (As := [.int (iZ x), .int (iZ y), .int (iZ (bZ d))]) (rest := [.ref (ad 66)]) hc (c_X5_isBorder l D K u1 ad w h 0 nc rc x y d hq2 hw2 hx hy) (cwV 3 hc.1.2.2.2.2 gX5_capacity_X5_isBorder rfl rfl rfl (by decide +kernel) ⟨Nat.le_of_ble_eq_true rfl, Nat.le_of_ble_eq_true rfl⟩) 66 hq2 rfl rfl rfl (by simp [Value.category]) dX5_capacity_10 ⟨Nat.zero_le _, Nat.zero_le _⟩ ?_
  refine V.topv (show _ = Value.int (iZ (bZ true)) from by rw [hok]) ?_
  refine q_ifz_ne hc 20 dX5_capacity_13 (by decide) (fun c7 => ?_) (fun c7 => ?_)
  · refine q_iconstN hc 0 dX5_capacity_20 rfl ?_
    refine q_iconstN hc 1 dX5_capacity_21 rfl ?_
    refine q_callMi (As := [.int (iZ (bZ false)), .int (iZ ((1 : Nat) : Int))]) (rest := []) hc (c_X5_fails l D K u1 ad w h nc rc false 1 hq2 (by omega)) (cwV 2 hc.1.2.2.2.2 gX5_capacity_X5_fails rfl rfl rfl (by decide +kernel) ⟨Nat.le_of_ble_eq_true rfl, Nat.le_of_ble_eq_true rfl⟩) 66 hq2 rfl rfl rfl (by decide) dX5_capacity_22 ⟨Nat.zero_le _, Nat.zero_le _⟩ (fun r9 u8 hp' => ?_)
    obtain ⟨hr12, hq10, fr11⟩ := hp'
    have hq13 := (fr11.at 67 (by omega)).trans hq3
    subst hr12
    have hq14 : u8[66]? = some (ad 66, mO ad w h 0 nc rc) := hq10
    refine q_ifz_ne hc 53 dX5_capacity_25 (by decide) (fun c15 => ?_) (fun c15 => ?_)
    · cases c15
    · refine q_aload_n hc 0 dX5_capacity_28 rfl ?_
      refine q_iload hc 4 dX5_capacity_29 rfl ?_
      refine q_if_lt hc 41 dX5_capacity_31 (by decide) (by omega) (fun c16 => ?_) (fun c16 => ?_)
      · exact absurd c16 (by omega)
      · refine q_iload hc 4 dX5_capacity_34 rfl ?_
        refine q_bipushN hc 20 dX5_capacity_36 (by decide +kernel) ?_
        refine q_icmp_le hc 45 dX5_capacity_38 (by decide) (by omega) (by omega) (fun c17 => ?_) (fun c17 => ?_)
        · refine q_iconstN hc 0 dX5_capacity_45 rfl ?_
          refine q_iconstN hc 2 dX5_capacity_46 rfl ?_
          refine q_callMi (As := [.int (iZ (bZ false)), .int (iZ ((2 : Nat) : Int))]) (rest := []) hc (c_X5_fails l D K u8 ad w h nc rc false 2 hq14 (by omega)) (cwV 2 hc.1.2.2.2.2 gX5_capacity_X5_fails rfl rfl rfl (by decide +kernel) ⟨Nat.le_of_ble_eq_true rfl, Nat.le_of_ble_eq_true rfl⟩) 66 hq14 rfl rfl rfl (by decide) dX5_capacity_47 ⟨Nat.zero_le _, Nat.zero_le _⟩ (fun r19 u18 hp' => ?_)
          obtain ⟨hr22, hq20, fr21⟩ := hp'
          have hq23 := (fr21.at 67 (by omega)).trans hq13
          subst hr22
          have hq24 : u18[66]? = some (ad 66, mO ad w h 0 nc rc) := hq20
          refine q_ifz_eq hc 55 dX5_capacity_50 (by decide) (fun c25 => ?_) (fun c25 => ?_)
          · have hy9 := hB_yes hok; have hq9 := hxy x.toNat y.toNat (by omega) (by omega); have hd9 := bN_le d
            refine q_aload_n hc 0 dX5_capacity_55 rfl ?_
            refine q_iload_n hc 1 dX5_capacity_56 rfl ?_
            refine V.topi (show _ = ((x.toNat : Nat) : Int) from by omega) ?_
            refine q_iload_n hc 2 dX5_capacity_57 rfl ?_
            refine V.topi (show _ = ((y.toNat : Nat) : Int) from by omega) ?_
            refine q_iload_n hc 3 dX5_capacity_58 rfl ?_
            refine q_callPn (As := [.int (iZ ((x.toNat : Nat) : Int)), .int (iZ ((y.toNat : Nat) : Int)), .int (iZ (bZ d))]) (rest := []) hc (c_X5_numberOf l D K u18 ad w h 0 nc rc x.toNat y.toNat d hq24 ) (cwV 3 hc.1.2.2.2.2 gX5_capacity_X5_numberOf rfl rfl rfl (by decide +kernel) ⟨Nat.le_of_ble_eq_true rfl, Nat.le_of_ble_eq_true rfl⟩) 66 hq24 rfl rfl rfl (by decide) dX5_capacity_59 ⟨Nat.zero_le _, Nat.zero_le _⟩ ?_
            refine q_istore hc [(5, .int (iZ ((x.toNat + w * y.toNat + 64 * bN d : Nat) : Int))), (0, .ref (ad 66)), (1, .int (iZ x)), (2, .int (iZ y)), (3, .int (iZ (bZ d))), (4, .int (iZ c1))] dX5_capacity_62 (by decide) rfl ?_
            refine q_aload_n hc 1 dX5_capacity_64 rfl ?_
            refine q_get hc 66 3 i5 hq24 rfl (by decide) f7 rfl rfl dX5_capacity_65 ?_
            refine q_iload hc 0 dX5_capacity_68 rfl ?_
            refine q_ialdN (j := x.toNat + w * y.toNat + 64 * bN d) hc 67 hq23 rfl (by omega) (by omega) dX5_capacity_70 ?_
            refine V.topi (show _ = ((cap (bIx w x y d) : Nat) : Int) from congrArg (fun a : Nat => (a : Int)) (mA_at d hq9 hn)) ?_
            refine q_istore hc [(6, .int (iZ ((cap (bIx w x y d) : Nat) : Int))), (5, .int (iZ ((x.toNat + w * y.toNat + 64 * bN d : Nat) : Int))), (0, .ref (ad 66)), (1, .int (iZ x)), (2, .int (iZ y)), (3, .int (iZ (bZ d))), (4, .int (iZ c1))] dX5_capacity_71 (by decide) rfl ?_
            refine q_aload_n hc 2 dX5_capacity_73 rfl ?_
            refine q_get hc 66 3 i5 hq24 rfl (by decide) f7 rfl rfl dX5_capacity_74 ?_
            refine q_iload hc 1 dX5_capacity_77 rfl ?_
            refine q_iload hc 6 dX5_capacity_79 rfl ?_
            refine V.topi (show _ = ((c1.toNat : Nat) : Int) from by omega) ?_
            refine q_iastN (j := x.toNat + w * y.toNat + 64 * bN d) (x := c1.toNat) hc 67 hq23 rfl (by omega) (by omega) dX5_capacity_81 (fun u28 hn' hf' => ?_)
            have hq29 : u28[67]? = some (ad 67, iN K 128 (va_up (mA n c0 cap) (x.toNat + w * y.toNat + 64 * bN d) c1.toNat)) := hn'
            have hq30 := (hf' 66 (by omega)).trans hq24
            have fr31 := Fr.one hf'
            refine q_norm_iN (g := mA n c0 (va_up cap (bIx w x y d) c1.toNat)) hc 67 hq29 (fun k hk => mA_up d hq9 hn hk) (fun u32 hn' hf' => ?_)
            have hq33 : u32[67]? = some (ad 67, iN K 128 (mA n c0 (va_up cap (bIx w x y d) c1.toNat))) := hn'
            have hq34 := (hf' 66 (by omega)).trans hq30
            have fr35 := Fr.one hf'
            refine q_iload hc 0 dX5_capacity_82 rfl ?_
            exact q_iretM (z := ((cap (bIx w x y d) : Nat) : Int)) hc (⟨rfl, hq34, hq33, (((((fr0.trans fr4 (fun _ _ => by omega)).trans fr11 (fun _ _ => by omega)).trans fr21 (fun _ _ => by omega)).trans fr31 (fun _ _ => by omega)).trans fr35 (fun _ _ => by omega))⟩) hr hlk dX5_capacity_84
          · cases c25
        · exact absurd c17 (by omega)
  · cases c7

set_option maxRecDepth 100000 in
set_option maxHeartbeats 4000000 in
theorem c_X5_capacity_e1 (l : Launch) (D : va_G) (K : Nat → ClassId) (ws : va_W) (ad : Nat → Nat) (w h th nc rc : Nat) (x y : Int) (d : Bool) (c1 : Int) (h66 : ws[66]? = some (ad 66, mO ad w h th nc rc)) (hw2 : 2 ≤ w ∧ w ≤ 8 ∧ 2 ≤ h ∧ h ≤ 8) (hx : -2147483648 ≤ x ∧ x < 2147483648) (hy : -2147483648 ≤ y ∧ y < 2147483648) (hc1 : -2147483648 ≤ c1 ∧ c1 < 2147483648) (hbad : hB w h x y d = false) : MMi l yX5_capacity wsX5_capacity ({ frames := 2, cells := 0, slots := 0, locals := 45 }) D K ws [.ref (ad 66), .int (iZ x), .int (iZ y), .int (iZ (bZ d)), .int (iZ c1)] (fun r u => (r = (iZ ((0 : Nat) : Int))) ∧ (u[66]? = some (ad 66, mO ad w h 1 nc rc)) ∧ (Fr (fun j => j = 66) ws u)) := by
  refine q_entMi RX5 [(0, .ref (ad 66)), (1, .int (iZ x)), (2, .int (iZ y)), (3, .int (iZ (bZ d))), (4, .int (iZ c1))] (by decide) rfl rfl (Nat.le_of_ble_eq_true rfl) rfl ?_
  intro p e s m args below meth c hc hr hlk
  have i5 : ∀ w ∈ u_ws RX5 TX5 16, w ∈ wsX5_capacity := by decide +kernel
  have f52 := hc.1.2.2.2.2 (.fieldLink RX5 52 "GlobalRoutesModel" "thrown" "I") (by decide +kernel)
  have fr0 : Fr (fun j => j = 66) ws ws := Fr.rfl
  refine q_aload_n hc 0 dX5_capacity_0 rfl ?_
  refine q_iconstN hc 0 dX5_capacity_1 rfl ?_
  refine q_put (ty := .int) hc 66 0 i5 tyX5 tyX5_ok nmX5 h66 rfl (by decide) f52 rfl rfl (by decide +kernel) rfl rfl (Nat.le_of_ble_eq_true rfl) rfl dX5_capacity_2 (fun u1 hn' hf' => ?_)
  have hq2 : u1[66]? = some (ad 66, mO ad w h 0 nc rc) := hn'
  have fr3 := Fr.one hf'
  refine q_aload_n hc 0 dX5_capacity_5 rfl ?_
  refine q_aload_n hc 0 dX5_capacity_6 rfl ?_
  refine q_iload_n hc 1 dX5_capacity_7 rfl ?_
  refine q_iload_n hc 2 dX5_capacity_8 rfl ?_
  refine q_iload_n hc 3 dX5_capacity_9 rfl ?_
  refine q_callPz (As := [.int (iZ x), .int (iZ y), .int (iZ (bZ d))]) (rest := [.ref (ad 66)]) hc (c_X5_isBorder l D K u1 ad w h 0 nc rc x y d hq2 hw2 hx hy) (cwV 3 hc.1.2.2.2.2 gX5_capacity_X5_isBorder rfl rfl rfl (by decide +kernel) ⟨Nat.le_of_ble_eq_true rfl, Nat.le_of_ble_eq_true rfl⟩) 66 hq2 rfl rfl rfl (by simp [Value.category]) dX5_capacity_10 ⟨Nat.zero_le _, Nat.zero_le _⟩ ?_
  refine V.topv (show _ = Value.int (iZ (bZ false)) from by rw [hbad]) ?_
  refine q_ifz_ne hc 20 dX5_capacity_13 (by decide) (fun c6 => ?_) (fun c6 => ?_)
  · cases c6
  · refine q_iconstN hc 1 dX5_capacity_16 rfl ?_
    refine q_goto hc 21 dX5_capacity_17 (by decide) ?_
    refine q_iconstN hc 1 dX5_capacity_21 rfl ?_
    refine q_callMi (As := [.int (iZ (bZ true)), .int (iZ ((1 : Nat) : Int))]) (rest := []) hc (c_X5_fails l D K u1 ad w h nc rc true 1 hq2 (by omega)) (cwV 2 hc.1.2.2.2.2 gX5_capacity_X5_fails rfl rfl rfl (by decide +kernel) ⟨Nat.le_of_ble_eq_true rfl, Nat.le_of_ble_eq_true rfl⟩) 66 hq2 rfl rfl rfl (by decide) dX5_capacity_22 ⟨Nat.zero_le _, Nat.zero_le _⟩ (fun r8 u7 hp' => ?_)
    obtain ⟨hr11, hq9, fr10⟩ := hp'
    subst hr11
    have hq12 : u7[66]? = some (ad 66, mO ad w h 1 nc rc) := hq9
    refine q_ifz_ne hc 53 dX5_capacity_25 (by decide) (fun c13 => ?_) (fun c13 => ?_)
    · refine q_iconstN hc 0 dX5_capacity_53 rfl ?_
      exact q_iretM (z := ((0 : Nat) : Int)) hc (⟨rfl, hq12, ((fr0.trans fr3 (fun _ _ => by omega)).trans fr10 (fun _ _ => by omega))⟩) hr hlk dX5_capacity_54
    · cases c13

set_option maxRecDepth 100000 in
set_option maxHeartbeats 4000000 in
theorem c_X5_capacity_e2 (l : Launch) (D : va_G) (K : Nat → ClassId) (ws : va_W) (ad : Nat → Nat) (w h th nc rc : Nat) (x y : Int) (d : Bool) (c1 : Int) (h66 : ws[66]? = some (ad 66, mO ad w h th nc rc)) (hw2 : 2 ≤ w ∧ w ≤ 8 ∧ 2 ≤ h ∧ h ≤ 8) (hx : -2147483648 ≤ x ∧ x < 2147483648) (hy : -2147483648 ≤ y ∧ y < 2147483648) (hc1 : -2147483648 ≤ c1 ∧ c1 < 2147483648) (hok : hB w h x y d = true) (hbad : ¬ (0 ≤ c1 ∧ c1 ≤ 20)) : MMi l yX5_capacity wsX5_capacity ({ frames := 2, cells := 0, slots := 0, locals := 45 }) D K ws [.ref (ad 66), .int (iZ x), .int (iZ y), .int (iZ (bZ d)), .int (iZ c1)] (fun r u => (r = (iZ ((0 : Nat) : Int))) ∧ (u[66]? = some (ad 66, mO ad w h 2 nc rc)) ∧ (Fr (fun j => j = 66) ws u)) := by
  refine q_entMi RX5 [(0, .ref (ad 66)), (1, .int (iZ x)), (2, .int (iZ y)), (3, .int (iZ (bZ d))), (4, .int (iZ c1))] (by decide) rfl rfl (Nat.le_of_ble_eq_true rfl) rfl ?_
  intro p e s m args below meth c hc hr hlk
  have i5 : ∀ w ∈ u_ws RX5 TX5 16, w ∈ wsX5_capacity := by decide +kernel
  have f52 := hc.1.2.2.2.2 (.fieldLink RX5 52 "GlobalRoutesModel" "thrown" "I") (by decide +kernel)
  have fr0 : Fr (fun j => j = 66) ws ws := Fr.rfl
  refine q_aload_n hc 0 dX5_capacity_0 rfl ?_
  refine q_iconstN hc 0 dX5_capacity_1 rfl ?_
  refine q_put (ty := .int) hc 66 0 i5 tyX5 tyX5_ok nmX5 h66 rfl (by decide) f52 rfl rfl (by decide +kernel) rfl rfl (Nat.le_of_ble_eq_true rfl) rfl dX5_capacity_2 (fun u1 hn' hf' => ?_)
  have hq2 : u1[66]? = some (ad 66, mO ad w h 0 nc rc) := hn'
  have fr3 := Fr.one hf'
  refine q_aload_n hc 0 dX5_capacity_5 rfl ?_
  refine q_aload_n hc 0 dX5_capacity_6 rfl ?_
  refine q_iload_n hc 1 dX5_capacity_7 rfl ?_
  refine q_iload_n hc 2 dX5_capacity_8 rfl ?_
  refine q_iload_n hc 3 dX5_capacity_9 rfl ?_
  refine q_callPz (As := [.int (iZ x), .int (iZ y), .int (iZ (bZ d))]) (rest := [.ref (ad 66)]) hc (c_X5_isBorder l D K u1 ad w h 0 nc rc x y d hq2 hw2 hx hy) (cwV 3 hc.1.2.2.2.2 gX5_capacity_X5_isBorder rfl rfl rfl (by decide +kernel) ⟨Nat.le_of_ble_eq_true rfl, Nat.le_of_ble_eq_true rfl⟩) 66 hq2 rfl rfl rfl (by simp [Value.category]) dX5_capacity_10 ⟨Nat.zero_le _, Nat.zero_le _⟩ ?_
  refine V.topv (show _ = Value.int (iZ (bZ true)) from by rw [hok]) ?_
  refine q_ifz_ne hc 20 dX5_capacity_13 (by decide) (fun c6 => ?_) (fun c6 => ?_)
  · refine q_iconstN hc 0 dX5_capacity_20 rfl ?_
    refine q_iconstN hc 1 dX5_capacity_21 rfl ?_
    refine q_callMi (As := [.int (iZ (bZ false)), .int (iZ ((1 : Nat) : Int))]) (rest := []) hc (c_X5_fails l D K u1 ad w h nc rc false 1 hq2 (by omega)) (cwV 2 hc.1.2.2.2.2 gX5_capacity_X5_fails rfl rfl rfl (by decide +kernel) ⟨Nat.le_of_ble_eq_true rfl, Nat.le_of_ble_eq_true rfl⟩) 66 hq2 rfl rfl rfl (by decide) dX5_capacity_22 ⟨Nat.zero_le _, Nat.zero_le _⟩ (fun r8 u7 hp' => ?_)
    obtain ⟨hr11, hq9, fr10⟩ := hp'
    subst hr11
    have hq12 : u7[66]? = some (ad 66, mO ad w h 0 nc rc) := hq9
    refine q_ifz_ne hc 53 dX5_capacity_25 (by decide) (fun c13 => ?_) (fun c13 => ?_)
    · cases c13
    · refine q_aload_n hc 0 dX5_capacity_28 rfl ?_
      refine q_iload hc 4 dX5_capacity_29 rfl ?_
      refine q_if_lt hc 41 dX5_capacity_31 (by decide) (by omega) (fun c14 => ?_) (fun c14 => ?_)
      · refine q_iconstN hc 1 dX5_capacity_41 rfl ?_
        refine q_goto hc 46 dX5_capacity_42 (by decide) ?_
        refine q_iconstN hc 2 dX5_capacity_46 rfl ?_
        refine q_callMi (As := [.int (iZ (bZ true)), .int (iZ ((2 : Nat) : Int))]) (rest := []) hc (c_X5_fails l D K u7 ad w h nc rc true 2 hq12 (by omega)) (cwV 2 hc.1.2.2.2.2 gX5_capacity_X5_fails rfl rfl rfl (by decide +kernel) ⟨Nat.le_of_ble_eq_true rfl, Nat.le_of_ble_eq_true rfl⟩) 66 hq12 rfl rfl rfl (by decide) dX5_capacity_47 ⟨Nat.zero_le _, Nat.zero_le _⟩ (fun r16 u15 hp' => ?_)
        obtain ⟨hr19, hq17, fr18⟩ := hp'
        subst hr19
        have hq20 : u15[66]? = some (ad 66, mO ad w h 2 nc rc) := hq17
        refine q_ifz_eq hc 55 dX5_capacity_50 (by decide) (fun c21 => ?_) (fun c21 => ?_)
        · cases c21
        · refine q_iconstN hc 0 dX5_capacity_53 rfl ?_
          exact q_iretM (z := ((0 : Nat) : Int)) hc (⟨rfl, hq20, (((fr0.trans fr3 (fun _ _ => by omega)).trans fr10 (fun _ _ => by omega)).trans fr18 (fun _ _ => by omega))⟩) hr hlk dX5_capacity_54
      · refine q_iload hc 4 dX5_capacity_34 rfl ?_
        refine q_bipushN hc 20 dX5_capacity_36 (by decide +kernel) ?_
        refine q_icmp_le hc 45 dX5_capacity_38 (by decide) (by omega) (by omega) (fun c22 => ?_) (fun c22 => ?_)
        · exact absurd c22 (by omega)
        · refine q_iconstN hc 1 dX5_capacity_41 rfl ?_
          refine q_goto hc 46 dX5_capacity_42 (by decide) ?_
          refine q_iconstN hc 2 dX5_capacity_46 rfl ?_
          refine q_callMi (As := [.int (iZ (bZ true)), .int (iZ ((2 : Nat) : Int))]) (rest := []) hc (c_X5_fails l D K u7 ad w h nc rc true 2 hq12 (by omega)) (cwV 2 hc.1.2.2.2.2 gX5_capacity_X5_fails rfl rfl rfl (by decide +kernel) ⟨Nat.le_of_ble_eq_true rfl, Nat.le_of_ble_eq_true rfl⟩) 66 hq12 rfl rfl rfl (by decide) dX5_capacity_47 ⟨Nat.zero_le _, Nat.zero_le _⟩ (fun r24 u23 hp' => ?_)
          obtain ⟨hr27, hq25, fr26⟩ := hp'
          subst hr27
          have hq28 : u23[66]? = some (ad 66, mO ad w h 2 nc rc) := hq25
          refine q_ifz_eq hc 55 dX5_capacity_50 (by decide) (fun c29 => ?_) (fun c29 => ?_)
          · cases c29
          · refine q_iconstN hc 0 dX5_capacity_53 rfl ?_
            exact q_iretM (z := ((0 : Nat) : Int)) hc (⟨rfl, hq28, (((fr0.trans fr3 (fun _ _ => by omega)).trans fr10 (fun _ _ => by omega)).trans fr26 (fun _ _ => by omega))⟩) hr hlk dX5_capacity_54
  · cases c6

set_option maxRecDepth 100000 in
set_option maxHeartbeats 4000000 in
theorem c_X5_net (l : Launch) (D : va_G) (K : Nat → ClassId) (ws : va_W) (ad : Nat → Nat) (w h th nc rc : Nat) (h66 : ws[66]? = some (ad 66, mO ad w h th nc rc)) (hnc : nc < 12) : MMi l yX5_net wsX5_net ({ frames := 1, cells := 0, slots := 0, locals := 22 }) D K ws [.ref (ad 66)] (fun r u => (r = (iZ ((nc : Nat) : Int))) ∧ (u[66]? = some (ad 66, mO ad w h 0 (nc + 1) rc)) ∧ (Fr (fun j => j = 66) ws u)) := by
  refine q_entMi RX5 [(0, .ref (ad 66))] (by decide) rfl rfl (Nat.le_of_ble_eq_true rfl) rfl ?_
  intro p e s m args below meth c hc hr hlk
  have i5 : ∀ w ∈ u_ws RX5 TX5 16, w ∈ wsX5_net := by decide +kernel
  have f52 := hc.1.2.2.2.2 (.fieldLink RX5 52 "GlobalRoutesModel" "thrown" "I") (by decide +kernel)
  have f63 := hc.1.2.2.2.2 (.fieldLink RX5 63 "GlobalRoutesModel" "nets" "I") (by decide +kernel)
  have fr0 : Fr (fun j => j = 66) ws ws := Fr.rfl
  refine q_aload_n hc 0 dX5_net_0 rfl ?_
  refine q_iconstN hc 0 dX5_net_1 rfl ?_
  refine q_put (ty := .int) hc 66 0 i5 tyX5 tyX5_ok nmX5 h66 rfl (by decide) f52 rfl rfl (by decide +kernel) rfl rfl (Nat.le_of_ble_eq_true rfl) rfl dX5_net_2 (fun u1 hn' hf' => ?_)
  have hq2 : u1[66]? = some (ad 66, mO ad w h 0 nc rc) := hn'
  have fr3 := Fr.one hf'
  refine q_aload_n hc 0 dX5_net_5 rfl ?_
  refine q_aload_n hc 0 dX5_net_6 rfl ?_
  refine q_get hc 66 5 i5 hq2 rfl (by decide) f63 rfl rfl dX5_net_7 ?_
  refine q_bipushN hc 12 dX5_net_10 (by decide +kernel) ?_
  refine q_icmpN_ne hc 19 dX5_net_12 (by decide) (by omega) (by omega) (fun c4 => ?_) (fun c4 => ?_)
  · refine q_iconstN hc 0 dX5_net_19 rfl ?_
    refine q_iconstN hc 1 dX5_net_20 rfl ?_
    refine q_callMi (As := [.int (iZ (bZ false)), .int (iZ ((1 : Nat) : Int))]) (rest := []) hc (c_X5_fails l D K u1 ad w h nc rc false 1 hq2 (by omega)) (cwV 2 hc.1.2.2.2.2 gX5_net_X5_fails rfl rfl rfl (by decide +kernel) ⟨Nat.le_of_ble_eq_true rfl, Nat.le_of_ble_eq_true rfl⟩) 66 hq2 rfl rfl rfl (by decide) dX5_net_21 ⟨Nat.zero_le _, Nat.zero_le _⟩ (fun r6 u5 hp' => ?_)
    obtain ⟨hr9, hq7, fr8⟩ := hp'
    subst hr9
    have hq10 : u5[66]? = some (ad 66, mO ad w h 0 nc rc) := hq7
    refine q_ifz_eq hc 29 dX5_net_24 (by decide) (fun c11 => ?_) (fun c11 => ?_)
    · refine q_aload_n hc 0 dX5_net_29 rfl ?_
      refine q_dup hc dX5_net_30 rfl ?_
      refine q_get hc 66 5 i5 hq10 rfl (by decide) f63 rfl rfl dX5_net_31 ?_
      refine q_iconstN hc 1 dX5_net_34 rfl ?_
      refine q_iaddN hc dX5_net_35 ?_
      refine q_put (ty := .int) hc 66 5 i5 tyX5 tyX5_ok nmX5 hq10 rfl (by decide) f63 rfl rfl (by decide +kernel) rfl rfl (Nat.le_of_ble_eq_true rfl) rfl dX5_net_36 (fun u12 hn' hf' => ?_)
      have hq13 : u12[66]? = some (ad 66, mO ad w h 0 (nc + 1) rc) := hn'
      have fr14 := Fr.one hf'
      refine q_aload_n hc 0 dX5_net_39 rfl ?_
      refine q_get hc 66 5 i5 hq13 rfl (by decide) f63 rfl rfl dX5_net_40 ?_
      refine q_iconstN hc 1 dX5_net_43 rfl ?_
      refine q_isubN hc dX5_net_44 (by omega) ?_
      exact q_iretM (z := (((nc + 1) - 1 : Nat) : Int)) hc (⟨congrArg iZ (by omega), hq13, (((fr0.trans fr3 (fun _ _ => by omega)).trans fr8 (fun _ _ => by omega)).trans fr14 (fun _ _ => by omega))⟩) hr hlk dX5_net_45
    · cases c11
  · exact absurd c4 (by omega)

set_option maxRecDepth 100000 in
set_option maxHeartbeats 4000000 in
theorem c_X5_net_e1 (l : Launch) (D : va_G) (K : Nat → ClassId) (ws : va_W) (ad : Nat → Nat) (w h th nc rc : Nat) (h66 : ws[66]? = some (ad 66, mO ad w h th nc rc)) (hnc : nc ≤ 12) (hbad : 12 ≤ nc) : MMi l yX5_net wsX5_net ({ frames := 1, cells := 0, slots := 0, locals := 22 }) D K ws [.ref (ad 66)] (fun r u => (r = (iZ ((0 : Nat) : Int))) ∧ (u[66]? = some (ad 66, mO ad w h 1 nc rc)) ∧ (Fr (fun j => j = 66) ws u)) := by
  refine q_entMi RX5 [(0, .ref (ad 66))] (by decide) rfl rfl (Nat.le_of_ble_eq_true rfl) rfl ?_
  intro p e s m args below meth c hc hr hlk
  have i5 : ∀ w ∈ u_ws RX5 TX5 16, w ∈ wsX5_net := by decide +kernel
  have f52 := hc.1.2.2.2.2 (.fieldLink RX5 52 "GlobalRoutesModel" "thrown" "I") (by decide +kernel)
  have f63 := hc.1.2.2.2.2 (.fieldLink RX5 63 "GlobalRoutesModel" "nets" "I") (by decide +kernel)
  have fr0 : Fr (fun j => j = 66) ws ws := Fr.rfl
  refine q_aload_n hc 0 dX5_net_0 rfl ?_
  refine q_iconstN hc 0 dX5_net_1 rfl ?_
  refine q_put (ty := .int) hc 66 0 i5 tyX5 tyX5_ok nmX5 h66 rfl (by decide) f52 rfl rfl (by decide +kernel) rfl rfl (Nat.le_of_ble_eq_true rfl) rfl dX5_net_2 (fun u1 hn' hf' => ?_)
  have hq2 : u1[66]? = some (ad 66, mO ad w h 0 nc rc) := hn'
  have fr3 := Fr.one hf'
  refine q_aload_n hc 0 dX5_net_5 rfl ?_
  refine q_aload_n hc 0 dX5_net_6 rfl ?_
  refine q_get hc 66 5 i5 hq2 rfl (by decide) f63 rfl rfl dX5_net_7 ?_
  refine q_bipushN hc 12 dX5_net_10 (by decide +kernel) ?_
  refine q_icmpN_ne hc 19 dX5_net_12 (by decide) (by omega) (by omega) (fun c4 => ?_) (fun c4 => ?_)
  · exact absurd c4 (by omega)
  · refine q_iconstN hc 1 dX5_net_15 rfl ?_
    refine q_goto hc 20 dX5_net_16 (by decide) ?_
    refine q_iconstN hc 1 dX5_net_20 rfl ?_
    refine q_callMi (As := [.int (iZ (bZ true)), .int (iZ ((1 : Nat) : Int))]) (rest := []) hc (c_X5_fails l D K u1 ad w h nc rc true 1 hq2 (by omega)) (cwV 2 hc.1.2.2.2.2 gX5_net_X5_fails rfl rfl rfl (by decide +kernel) ⟨Nat.le_of_ble_eq_true rfl, Nat.le_of_ble_eq_true rfl⟩) 66 hq2 rfl rfl rfl (by decide) dX5_net_21 ⟨Nat.zero_le _, Nat.zero_le _⟩ (fun r6 u5 hp' => ?_)
    obtain ⟨hr9, hq7, fr8⟩ := hp'
    subst hr9
    have hq10 : u5[66]? = some (ad 66, mO ad w h 1 nc rc) := hq7
    refine q_ifz_eq hc 29 dX5_net_24 (by decide) (fun c11 => ?_) (fun c11 => ?_)
    · cases c11
    · refine q_iconstN hc 0 dX5_net_27 rfl ?_
      exact q_iretM (z := ((0 : Nat) : Int)) hc (⟨rfl, hq10, ((fr0.trans fr3 (fun _ _ => by omega)).trans fr8 (fun _ _ => by omega))⟩) hr hlk dX5_net_28

set_option maxRecDepth 100000 in
set_option maxHeartbeats 4000000 in
theorem c_X5_pin (l : Launch) (D : va_G) (K : Nat → ClassId) (ws : va_W) (ad : Nat → Nat) (w h n th nc rc : Nat) (num : Int) (x y : Int) (pn : Nat → Nat) (rl : Nat → Int) (pi : Nat → Nat → Nat) (ro : Nat → Nat → Bool) (h66 : ws[66]? = some (ad 66, mO ad w h th nc rc)) (m69 : ws[69]? = some (ad 69, iN K 12 pn)) (m70 : ws[70]? = some (ad 70, iN K 60 (mP pi))) (m71 : ws[71]? = some (ad 71, zA K 12 (mHr rl))) (m72 : ws[72]? = some (ad 72, zA K 1536 (mRo n ro))) (hnc : nc ≤ 12) (hnum : -2147483648 ≤ num ∧ num < 2147483648) (hx : -2147483648 ≤ x ∧ x < 2147483648) (hy : -2147483648 ≤ y ∧ y < 2147483648) (hn : n ≤ 64) (hw2 : 2 ≤ w ∧ w ≤ 8 ∧ 2 ≤ h ∧ h ≤ 8) (hxy : ∀ x y, x < w → y < h → x + w * y < n) (hpn : ∀ j, j < nc → pn j ≤ 5) (hpif : ∀ j k, j < nc → pi j k < 64) (hok : (0 ≤ num ∧ num < (nc : Int))) (hcl : (0 ≤ x ∧ x < (w : Int) ∧ 0 ≤ y ∧ y < (h : Int))) (hnp : anyB (fun k => decide (pi num.toNat k = x.toNat + w * y.toNat)) (pn num.toNat) = false) (hp5 : pn num.toNat < 5) : MMi l yX5_pin wsX5_pin ({ frames := 1, cells := 0, slots := 0, locals := 23 }) D K ws [.ref (ad 66), .int (iZ num), .int (iZ x), .int (iZ y)] (fun r u => (r = (iZ ((pn num.toNat + 1 : Nat) : Int))) ∧ (u[66]? = some (ad 66, mO ad w h 0 nc rc)) ∧ (u[69]? = some (ad 69, iN K 12 (va_up pn num.toNat (pn num.toNat + 1)))) ∧ (u[70]? = some (ad 70, iN K 60 (mP (va_up pi num.toNat (va_up (pi num.toNat) (pn num.toNat) (x.toNat + w * y.toNat)))))) ∧ (u[72]? = some (ad 72, zA K 1536 (mRo n (va_up ro num.toNat (fun _ => false))))) ∧ (u[71]? = some (ad 71, zA K 12 (mHr (va_up rl num.toNat (-1))))) ∧ (Fr (fun j => j = 66 ∨ j = 69 ∨ j = 70 ∨ j = 72 ∨ j = 71) ws u)) := by
  refine q_entMi RX5 [(0, .ref (ad 66)), (1, .int (iZ num)), (2, .int (iZ x)), (3, .int (iZ y))] (by decide) rfl rfl (Nat.le_of_ble_eq_true rfl) rfl ?_
  intro p e s m args below meth c hc hr hlk
  have i5 : ∀ w ∈ u_ws RX5 TX5 16, w ∈ wsX5_pin := by decide +kernel
  have f52 := hc.1.2.2.2.2 (.fieldLink RX5 52 "GlobalRoutesModel" "thrown" "I") (by decide +kernel)
  have f16 := hc.1.2.2.2.2 (.fieldLink RX5 16 "GlobalRoutesModel" "pins" "[I") (by decide +kernel)
  have f19 := hc.1.2.2.2.2 (.fieldLink RX5 19 "GlobalRoutesModel" "pinCells" "[I") (by decide +kernel)
  have f45 := hc.1.2.2.2.2 (.fieldLink RX5 45 "GlobalRoutesModel" "width" "I") (by decide +kernel)
  have fr0 : Fr (fun j => j = 66 ∨ j = 69 ∨ j = 70 ∨ j = 72 ∨ j = 71) ws ws := Fr.rfl
  refine q_aload_n hc 0 dX5_pin_0 rfl ?_
  refine q_iconstN hc 0 dX5_pin_1 rfl ?_
  refine q_put (ty := .int) hc 66 0 i5 tyX5 tyX5_ok nmX5 h66 rfl (by decide) f52 rfl rfl (by decide +kernel) rfl rfl (Nat.le_of_ble_eq_true rfl) rfl dX5_pin_2 (fun u1 hn' hf' => ?_)
  have hq2 : u1[66]? = some (ad 66, mO ad w h 0 nc rc) := hn'
  have hq3 := (hf' 69 (by omega)).trans m69
  have hq4 := (hf' 70 (by omega)).trans m70
  have hq5 := (hf' 71 (by omega)).trans m71
  have hq6 := (hf' 72 (by omega)).trans m72
  have fr7 := Fr.one hf'
  refine q_aload_n hc 0 dX5_pin_5 rfl ?_
  refine q_aload_n hc 0 dX5_pin_6 rfl ?_
  refine q_iload_n hc 1 dX5_pin_7 rfl ?_
  refine q_callPz (As := [.int (iZ num)]) (rest := [.ref (ad 66)]) hc (c_X5_isNet l D K u1 ad w h 0 nc rc num hq2 hnc hnum) (cwV 1 hc.1.2.2.2.2 gX5_pin_X5_isNet rfl rfl rfl (by decide +kernel) ⟨Nat.le_of_ble_eq_true rfl, Nat.le_of_ble_eq_true rfl⟩) 66 hq2 rfl rfl rfl (by simp [Value.category]) dX5_pin_8 ⟨Nat.zero_le _, Nat.zero_le _⟩ ?_
  refine V.topv (show _ = Value.int (iZ (bZ true)) from by rw [decide_eq_true hok]) ?_
  refine q_ifz_ne hc 18 dX5_pin_11 (by decide) (fun c10 => ?_) (fun c10 => ?_)
  · refine q_iconstN hc 0 dX5_pin_18 rfl ?_
    refine q_iconstN hc 1 dX5_pin_19 rfl ?_
    refine q_callMi (As := [.int (iZ (bZ false)), .int (iZ ((1 : Nat) : Int))]) (rest := []) hc (c_X5_fails l D K u1 ad w h nc rc false 1 hq2 (by omega)) (cwV 2 hc.1.2.2.2.2 gX5_pin_X5_fails rfl rfl rfl (by decide +kernel) ⟨Nat.le_of_ble_eq_true rfl, Nat.le_of_ble_eq_true rfl⟩) 66 hq2 rfl rfl rfl (by decide) dX5_pin_20 ⟨Nat.zero_le _, Nat.zero_le _⟩ (fun r12 u11 hp' => ?_)
    obtain ⟨hr15, hq13, fr14⟩ := hp'
    have hq16 := (fr14.at 69 (by omega)).trans hq3
    have hq17 := (fr14.at 70 (by omega)).trans hq4
    have hq18 := (fr14.at 71 (by omega)).trans hq5
    have hq19 := (fr14.at 72 (by omega)).trans hq6
    subst hr15
    have hq20 : u11[66]? = some (ad 66, mO ad w h 0 nc rc) := hq13
    refine q_ifz_eq hc 28 dX5_pin_23 (by decide) (fun c21 => ?_) (fun c21 => ?_)
    · refine q_aload_n hc 0 dX5_pin_28 rfl ?_
      refine q_iload_n hc 2 dX5_pin_29 rfl ?_
      refine q_iload_n hc 3 dX5_pin_30 rfl ?_
      refine q_callPz (As := [.int (iZ x), .int (iZ y)]) (rest := []) hc (c_X5_isCell l D K u11 ad w h 0 nc rc x y hq20 hw2 hx hy) (cwV 2 hc.1.2.2.2.2 gX5_pin_X5_isCell rfl rfl rfl (by decide +kernel) ⟨Nat.le_of_ble_eq_true rfl, Nat.le_of_ble_eq_true rfl⟩) 66 hq20 rfl rfl rfl (by decide) dX5_pin_31 ⟨Nat.zero_le _, Nat.zero_le _⟩ ?_
      refine q_istore hc [(4, .int (iZ (bZ (decide (0 ≤ x ∧ x < (w : Int) ∧ 0 ≤ y ∧ y < (h : Int)))))), (0, .ref (ad 66)), (1, .int (iZ num)), (2, .int (iZ x)), (3, .int (iZ y))] dX5_pin_34 (by decide) rfl ?_
      refine q_iconstN hc 0 dX5_pin_36 rfl ?_
      refine q_istore hc [(5, .int (iZ ((0 : Nat) : Int))), (4, .int (iZ (bZ (decide (0 ≤ x ∧ x < (w : Int) ∧ 0 ≤ y ∧ y < (h : Int)))))), (0, .ref (ad 66)), (1, .int (iZ num)), (2, .int (iZ x)), (3, .int (iZ y))] dX5_pin_37 (by decide) rfl ?_
      refine V.sub [2, 3, 4, 5, 1, 0] rfl ?_
      refine V.loopP (α := Nat × Bool) (fun xx => pn num.toNat - xx.1) (fun xx => (xx.1 ≤ pn num.toNat) ∧ (xx.2 = (decide (0 ≤ x ∧ x < (w : Int) ∧ 0 ≤ y ∧ y < (h : Int)) && !(anyB (fun k => decide (pi num.toNat k = x.toNat + w * y.toNat)) xx.1)))) (fun xx => [(0, .ref (ad 66)), (1, .int (iZ num)), (2, .int (iZ x)), (3, .int (iZ y)), (4, .int (iZ (bZ xx.2))), (5, .int (iZ ((xx.1 : Nat) : Int)))]) (0, decide (0 ≤ x ∧ x < (w : Int) ∧ 0 ≤ y ∧ y < (h : Int))) ⟨(Nat.zero_le _), ((Bool.and_true _).symm)⟩ rfl ?_
      intro xx ih39 hI
      obtain ⟨i, q⟩ := xx
      try dsimp only at ih39 hI ⊢
      obtain ⟨hi0, hq⟩ := hI
      refine q_iload hc 5 dX5_pin_39 rfl ?_
      have u5 := hpn num.toNat (by omega)
      refine q_aload_n hc 0 dX5_pin_41 rfl ?_
      refine q_get hc 66 6 i5 hq20 rfl (by decide) f16 rfl rfl dX5_pin_42 ?_
      refine q_iload_n hc 1 dX5_pin_45 rfl ?_
      refine V.topi (show _ = ((num.toNat : Nat) : Int) from by omega) ?_
      refine q_ialdN (j := num.toNat) hc 69 hq16 rfl (by omega) (by omega) dX5_pin_46 ?_
      refine q_icmpN_ge hc 90 dX5_pin_47 (by decide) (by omega) (by omega) (fun c25 => ?_) (fun c25 => ?_)
      · obtain rfl : q = true := by rw [hq, show i = pn num.toNat by omega]; rw [decide_eq_true hcl, hnp]; rfl
        refine q_aload_n hc 0 dX5_pin_90 rfl ?_
        refine q_iload hc 4 dX5_pin_91 rfl ?_
        refine q_ifz_ne hc 100 dX5_pin_93 (by decide) (fun c26 => ?_) (fun c26 => ?_)
        · refine q_iconstN hc 0 dX5_pin_100 rfl ?_
          refine q_iconstN hc 2 dX5_pin_101 rfl ?_
          refine q_callMi (As := [.int (iZ (bZ false)), .int (iZ ((2 : Nat) : Int))]) (rest := []) hc (c_X5_fails l D K u11 ad w h nc rc false 2 hq20 (by omega)) (cwV 2 hc.1.2.2.2.2 gX5_pin_X5_fails rfl rfl rfl (by decide +kernel) ⟨Nat.le_of_ble_eq_true rfl, Nat.le_of_ble_eq_true rfl⟩) 66 hq20 rfl rfl rfl (by decide) dX5_pin_102 ⟨Nat.zero_le _, Nat.zero_le _⟩ (fun r28 u27 hp' => ?_)
          obtain ⟨hr31, hq29, fr30⟩ := hp'
          have hq32 := (fr30.at 69 (by omega)).trans hq16
          have hq33 := (fr30.at 70 (by omega)).trans hq17
          have hq34 := (fr30.at 71 (by omega)).trans hq18
          have hq35 := (fr30.at 72 (by omega)).trans hq19
          subst hr31
          have hq36 : u27[66]? = some (ad 66, mO ad w h 0 nc rc) := hq29
          refine q_ifz_ne hc 131 dX5_pin_105 (by decide) (fun c37 => ?_) (fun c37 => ?_)
          · cases c37
          · refine q_aload_n hc 0 dX5_pin_108 rfl ?_
            refine q_aload_n hc 0 dX5_pin_109 rfl ?_
            refine q_get hc 66 6 i5 hq36 rfl (by decide) f16 rfl rfl dX5_pin_110 ?_
            refine q_iload_n hc 1 dX5_pin_113 rfl ?_
            refine V.topi (show _ = ((num.toNat : Nat) : Int) from by omega) ?_
            refine q_ialdN (j := num.toNat) hc 69 hq32 rfl (by omega) (by omega) dX5_pin_114 ?_
            refine q_iconstN hc 5 dX5_pin_115 rfl ?_
            refine q_icmpN_ne hc 123 dX5_pin_116 (by decide) (by omega) (by omega) (fun c38 => ?_) (fun c38 => ?_)
            · refine q_iconstN hc 0 dX5_pin_123 rfl ?_
              refine q_iconstN hc 3 dX5_pin_124 rfl ?_
              refine q_callMi (As := [.int (iZ (bZ false)), .int (iZ ((3 : Nat) : Int))]) (rest := []) hc (c_X5_fails l D K u27 ad w h nc rc false 3 hq36 (by omega)) (cwV 2 hc.1.2.2.2.2 gX5_pin_X5_fails rfl rfl rfl (by decide +kernel) ⟨Nat.le_of_ble_eq_true rfl, Nat.le_of_ble_eq_true rfl⟩) 66 hq36 rfl rfl rfl (by decide) dX5_pin_125 ⟨Nat.zero_le _, Nat.zero_le _⟩ (fun r40 u39 hp' => ?_)
              obtain ⟨hr43, hq41, fr42⟩ := hp'
              have hq44 := (fr42.at 69 (by omega)).trans hq32
              have hq45 := (fr42.at 70 (by omega)).trans hq33
              have hq46 := (fr42.at 71 (by omega)).trans hq34
              have hq47 := (fr42.at 72 (by omega)).trans hq35
              subst hr43
              have hq48 : u39[66]? = some (ad 66, mO ad w h 0 nc rc) := hq41
              refine q_ifz_eq hc 133 dX5_pin_128 (by decide) (fun c49 => ?_) (fun c49 => ?_)
              · have hq9 := hxy x.toNat y.toNat (by omega) (by omega)
                refine q_aload_n hc 0 dX5_pin_133 rfl ?_
                refine q_get hc 66 7 i5 hq48 rfl (by decide) f19 rfl rfl dX5_pin_134 ?_
                refine q_iconstN hc 5 dX5_pin_137 rfl ?_
                refine q_iload_n hc 1 dX5_pin_138 rfl ?_
                refine V.topi (show _ = ((num.toNat : Nat) : Int) from by omega) ?_
                refine q_imulN hc dX5_pin_139 ?_
                refine q_aload_n hc 0 dX5_pin_140 rfl ?_
                refine q_get hc 66 6 i5 hq48 rfl (by decide) f16 rfl rfl dX5_pin_141 ?_
                refine q_iload_n hc 1 dX5_pin_144 rfl ?_
                refine V.topi (show _ = ((num.toNat : Nat) : Int) from by omega) ?_
                refine q_ialdN (j := num.toNat) hc 69 hq44 rfl (by omega) (by omega) dX5_pin_145 ?_
                refine q_iaddN hc dX5_pin_146 ?_
                refine q_iload_n hc 2 dX5_pin_147 rfl ?_
                refine V.topi (show _ = ((x.toNat : Nat) : Int) from by omega) ?_
                refine q_aload_n hc 0 dX5_pin_148 rfl ?_
                refine q_get hc 66 1 i5 hq48 rfl (by decide) f45 rfl rfl dX5_pin_149 ?_
                refine q_iload_n hc 3 dX5_pin_152 rfl ?_
                refine V.topi (show _ = ((y.toNat : Nat) : Int) from by omega) ?_
                refine q_imulN hc dX5_pin_153 ?_
                refine q_iaddN hc dX5_pin_154 ?_
                refine q_iastN (j := 5 * num.toNat + (pn num.toNat)) (x := x.toNat + (w * y.toNat)) hc 70 hq45 rfl (by omega) (by omega) dX5_pin_155 (fun u50 hn' hf' => ?_)
                have hq51 : u50[70]? = some (ad 70, iN K 60 (va_up (mP pi) (5 * num.toNat + (pn num.toNat)) (x.toNat + (w * y.toNat)))) := hn'
                have hq52 := (hf' 66 (by omega)).trans hq48
                have hq53 := (hf' 69 (by omega)).trans hq44
                have hq54 := (hf' 71 (by omega)).trans hq46
                have hq55 := (hf' 72 (by omega)).trans hq47
                have fr56 := Fr.one hf'
                refine q_norm_iN (g := mP (va_up pi num.toNat (va_up (pi num.toNat) (pn num.toNat) (x.toNat + w * y.toNat)))) hc 70 hq51 (fun k _ => mP_up (by omega) k) (fun u57 hn' hf' => ?_)
                have hq58 : u57[70]? = some (ad 70, iN K 60 (mP (va_up pi num.toNat (va_up (pi num.toNat) (pn num.toNat) (x.toNat + w * y.toNat))))) := hn'
                have hq59 := (hf' 66 (by omega)).trans hq52
                have hq60 := (hf' 69 (by omega)).trans hq53
                have hq61 := (hf' 71 (by omega)).trans hq54
                have hq62 := (hf' 72 (by omega)).trans hq55
                have fr63 := Fr.one hf'
                refine q_aload_n hc 0 dX5_pin_156 rfl ?_
                refine q_get hc 66 6 i5 hq59 rfl (by decide) f16 rfl rfl dX5_pin_157 ?_
                refine q_iload_n hc 1 dX5_pin_160 rfl ?_
                refine V.topi (show _ = ((num.toNat : Nat) : Int) from by omega) ?_
                refine q_dup2 hc dX5_pin_161 rfl rfl ?_
                refine q_ialdN (j := num.toNat) hc 69 hq60 rfl (by omega) (by omega) dX5_pin_162 ?_
                refine q_iconstN hc 1 dX5_pin_163 rfl ?_
                refine q_iaddN hc dX5_pin_164 ?_
                refine q_iastN (j := num.toNat) (x := pn num.toNat + 1) hc 69 hq60 rfl (by omega) (by omega) dX5_pin_165 (fun u64 hn' hf' => ?_)
                have hq65 : u64[69]? = some (ad 69, iN K 12 (va_up pn num.toNat (pn num.toNat + 1))) := hn'
                have hq66 := (hf' 66 (by omega)).trans hq59
                have hq67 := (hf' 70 (by omega)).trans hq58
                have hq68 := (hf' 71 (by omega)).trans hq61
                have hq69 := (hf' 72 (by omega)).trans hq62
                have fr70 := Fr.one hf'
                refine q_aload_n hc 0 dX5_pin_166 rfl ?_
                refine q_iload_n hc 1 dX5_pin_167 rfl ?_
                refine V.topi (show _ = ((num.toNat : Nat) : Int) from by omega) ?_
                refine q_callMi (As := [.int (iZ ((num.toNat : Nat) : Int))]) (rest := []) hc (c_X5_forgetRoute l D K u64 ad w h n 0 nc rc num.toNat ro rl hq66 hq68 hq69 (by omega) hn) (cwV 1 hc.1.2.2.2.2 gX5_pin_X5_forgetRoute rfl rfl rfl (by decide +kernel) ⟨Nat.le_of_ble_eq_true rfl, Nat.le_of_ble_eq_true rfl⟩) 66 hq66 rfl rfl rfl (by decide) dX5_pin_168 ⟨Nat.zero_le _, Nat.zero_le _⟩ (fun r72 u71 hp' => ?_)
                obtain ⟨hr76, hq73, hq74, fr75⟩ := hp'
                have hq77 := (fr75.at 66 (by omega)).trans hq66
                have hq78 := (fr75.at 69 (by omega)).trans hq65
                have hq79 := (fr75.at 70 (by omega)).trans hq67
                subst hr76
                refine q_pop hc dX5_pin_171 rfl ?_
                refine q_aload_n hc 0 dX5_pin_172 rfl ?_
                refine q_get hc 66 6 i5 hq77 rfl (by decide) f16 rfl rfl dX5_pin_173 ?_
                refine q_iload_n hc 1 dX5_pin_176 rfl ?_
                refine V.topi (show _ = ((num.toNat : Nat) : Int) from by omega) ?_
                refine q_ialdN (j := num.toNat) hc 69 hq78 rfl (by omega) (by omega) dX5_pin_177 ?_
                exact q_iretM (z := (((va_up pn num.toNat (pn num.toNat + 1)) num.toNat : Nat) : Int)) hc (⟨congrArg (fun a : Nat => iZ (a : Int)) (va_up_self _ _ _), hq77, hq78, hq79, hq73, hq74, ((((((((fr0.trans fr7 (fun _ _ => by omega)).trans fr14 (fun _ _ => by omega)).trans fr30 (fun _ _ => by omega)).trans fr42 (fun _ _ => by omega)).trans fr56 (fun _ _ => by omega)).trans fr63 (fun _ _ => by omega)).trans fr70 (fun _ _ => by omega)).trans fr75 (fun _ _ => by omega))⟩) hr hlk dX5_pin_178
              · cases c49
            · exact absurd c38 (by omega)
        · cases c26
      · refine q_iload hc 4 dX5_pin_50 rfl ?_
        refine q_ifz_eq hc 81 dX5_pin_52 (by decide) (fun c80 => ?_) (fun c80 => ?_)
        · refine q_iconstN hc 0 dX5_pin_81 rfl ?_
          refine q_istore hc [(4, .int (iZ ((0 : Nat) : Int))), (0, .ref (ad 66)), (1, .int (iZ num)), (2, .int (iZ x)), (3, .int (iZ y)), (5, .int (iZ ((i : Nat) : Int)))] dX5_pin_82 (by decide) rfl ?_
          refine q_iincN (q := 5) hc 1 [(5, .int (iZ ((i + 1 : Nat) : Int))), (4, .int (iZ ((0 : Nat) : Int))), (0, .ref (ad 66)), (1, .int (iZ num)), (2, .int (iZ x)), (3, .int (iZ y))] dX5_pin_84 rfl rfl (by decide) rfl ?_
          refine q_goto hc 39 dX5_pin_87 (by decide) ?_
          refine V.sub [2, 3, 4, 5, 1, 0] rfl ?_
          exact ih39 (i + 1, false) (by omega) ⟨(by omega), (by rw [show q = false from c80] at hq; show false = (decide (0 ≤ x ∧ x < (w : Int) ∧ 0 ≤ y ∧ y < (h : Int)) && !(anyB _ i || decide (pi num.toNat i = x.toNat + w * y.toNat))); rw [Bool.not_or, ← Bool.and_assoc, ← hq]; rfl)⟩
        · have hcl9 : (0 ≤ x ∧ x < (w : Int) ∧ 0 ≤ y ∧ y < (h : Int)) := by rw [show q = true from c80] at hq; exact of_decide_eq_true (Bool.and_eq_true_iff.mp hq.symm).1
          have hq9 := hxy x.toNat y.toNat (by omega) (by omega); have hp9 := hpif num.toNat i (by omega); have e9 : mP pi (5 * num.toNat + i) = pi num.toNat i := mP_at (by omega)
          refine q_aload_n hc 0 dX5_pin_55 rfl ?_
          refine q_get hc 66 7 i5 hq20 rfl (by decide) f19 rfl rfl dX5_pin_56 ?_
          refine q_iconstN hc 5 dX5_pin_59 rfl ?_
          refine q_iload_n hc 1 dX5_pin_60 rfl ?_
          refine V.topi (show _ = ((num.toNat : Nat) : Int) from by omega) ?_
          refine q_imulN hc dX5_pin_61 ?_
          refine q_iload hc 5 dX5_pin_62 rfl ?_
          refine q_iaddN hc dX5_pin_64 ?_
          refine q_ialdN (j := 5 * num.toNat + i) hc 70 hq17 rfl (by omega) (by omega) dX5_pin_65 ?_
          refine V.topi (show _ = ((pi num.toNat i : Nat) : Int) from congrArg (fun a : Nat => (a : Int)) e9) ?_
          refine q_iload_n hc 2 dX5_pin_66 rfl ?_
          refine V.topi (show _ = ((x.toNat : Nat) : Int) from by omega) ?_
          refine q_aload_n hc 0 dX5_pin_67 rfl ?_
          refine q_get hc 66 1 i5 hq20 rfl (by decide) f45 rfl rfl dX5_pin_68 ?_
          refine q_iload_n hc 3 dX5_pin_71 rfl ?_
          refine V.topi (show _ = ((y.toNat : Nat) : Int) from by omega) ?_
          refine q_imulN hc dX5_pin_72 ?_
          refine q_iaddN hc dX5_pin_73 ?_
          refine q_icmpN_eq hc 81 dX5_pin_74 (by decide) (by omega) (by omega) (fun c81 => ?_) (fun c81 => ?_)
          · refine q_iconstN hc 0 dX5_pin_81 rfl ?_
            refine q_istore hc [(4, .int (iZ ((0 : Nat) : Int))), (0, .ref (ad 66)), (1, .int (iZ num)), (2, .int (iZ x)), (3, .int (iZ y)), (5, .int (iZ ((i : Nat) : Int)))] dX5_pin_82 (by decide) rfl ?_
            refine q_iincN (q := 5) hc 1 [(5, .int (iZ ((i + 1 : Nat) : Int))), (4, .int (iZ ((0 : Nat) : Int))), (0, .ref (ad 66)), (1, .int (iZ num)), (2, .int (iZ x)), (3, .int (iZ y))] dX5_pin_84 rfl rfl (by decide) rfl ?_
            refine q_goto hc 39 dX5_pin_87 (by decide) ?_
            refine V.sub [2, 3, 4, 5, 1, 0] rfl ?_
            exact ih39 (i + 1, false) (by omega) ⟨(by omega), (by rw [show q = true from c80] at hq; show false = (decide (0 ≤ x ∧ x < (w : Int) ∧ 0 ≤ y ∧ y < (h : Int)) && !(anyB _ i || decide (pi num.toNat i = x.toNat + w * y.toNat))); rw [Bool.not_or, ← Bool.and_assoc, ← hq, decide_eq_true (by omega)]; rfl)⟩
          · refine q_iconstN hc 1 dX5_pin_77 rfl ?_
            refine q_goto hc 82 dX5_pin_78 (by decide) ?_
            refine q_istore hc [(4, .int (iZ ((1 : Nat) : Int))), (0, .ref (ad 66)), (1, .int (iZ num)), (2, .int (iZ x)), (3, .int (iZ y)), (5, .int (iZ ((i : Nat) : Int)))] dX5_pin_82 (by decide) rfl ?_
            refine q_iincN (q := 5) hc 1 [(5, .int (iZ ((i + 1 : Nat) : Int))), (4, .int (iZ ((1 : Nat) : Int))), (0, .ref (ad 66)), (1, .int (iZ num)), (2, .int (iZ x)), (3, .int (iZ y))] dX5_pin_84 rfl rfl (by decide) rfl ?_
            refine q_goto hc 39 dX5_pin_87 (by decide) ?_
            refine V.sub [2, 3, 4, 5, 1, 0] rfl ?_
            exact ih39 (i + 1, true) (by omega) ⟨(by omega), (by rw [show q = true from c80] at hq; show true = (decide (0 ≤ x ∧ x < (w : Int) ∧ 0 ≤ y ∧ y < (h : Int)) && !(anyB _ i || decide (pi num.toNat i = x.toNat + w * y.toNat))); rw [Bool.not_or, ← Bool.and_assoc, ← hq, decide_eq_false (by omega)]; rfl)⟩
    · cases c21
  · cases c10

set_option maxRecDepth 100000 in
set_option maxHeartbeats 4000000 in
theorem c_X5_pin_e1 (l : Launch) (D : va_G) (K : Nat → ClassId) (ws : va_W) (ad : Nat → Nat) (w h th nc rc : Nat) (num : Int) (x y : Int) (h66 : ws[66]? = some (ad 66, mO ad w h th nc rc)) (hnc : nc ≤ 12) (hnum : -2147483648 ≤ num ∧ num < 2147483648) (hbad : ¬ (0 ≤ num ∧ num < (nc : Int))) : MMi l yX5_pin wsX5_pin ({ frames := 1, cells := 0, slots := 0, locals := 22 }) D K ws [.ref (ad 66), .int (iZ num), .int (iZ x), .int (iZ y)] (fun r u => (r = (iZ ((0 : Nat) : Int))) ∧ (u[66]? = some (ad 66, mO ad w h 1 nc rc)) ∧ (Fr (fun j => j = 66) ws u)) := by
  refine q_entMi RX5 [(0, .ref (ad 66)), (1, .int (iZ num)), (2, .int (iZ x)), (3, .int (iZ y))] (by decide) rfl rfl (Nat.le_of_ble_eq_true rfl) rfl ?_
  intro p e s m args below meth c hc hr hlk
  have i5 : ∀ w ∈ u_ws RX5 TX5 16, w ∈ wsX5_pin := by decide +kernel
  have f52 := hc.1.2.2.2.2 (.fieldLink RX5 52 "GlobalRoutesModel" "thrown" "I") (by decide +kernel)
  have fr0 : Fr (fun j => j = 66) ws ws := Fr.rfl
  refine q_aload_n hc 0 dX5_pin_0 rfl ?_
  refine q_iconstN hc 0 dX5_pin_1 rfl ?_
  refine q_put (ty := .int) hc 66 0 i5 tyX5 tyX5_ok nmX5 h66 rfl (by decide) f52 rfl rfl (by decide +kernel) rfl rfl (Nat.le_of_ble_eq_true rfl) rfl dX5_pin_2 (fun u1 hn' hf' => ?_)
  have hq2 : u1[66]? = some (ad 66, mO ad w h 0 nc rc) := hn'
  have fr3 := Fr.one hf'
  refine q_aload_n hc 0 dX5_pin_5 rfl ?_
  refine q_aload_n hc 0 dX5_pin_6 rfl ?_
  refine q_iload_n hc 1 dX5_pin_7 rfl ?_
  refine q_callPz (As := [.int (iZ num)]) (rest := [.ref (ad 66)]) hc (c_X5_isNet l D K u1 ad w h 0 nc rc num hq2 hnc hnum) (cwV 1 hc.1.2.2.2.2 gX5_pin_X5_isNet rfl rfl rfl (by decide +kernel) ⟨Nat.le_of_ble_eq_true rfl, Nat.le_of_ble_eq_true rfl⟩) 66 hq2 rfl rfl rfl (by simp [Value.category]) dX5_pin_8 ⟨Nat.zero_le _, Nat.zero_le _⟩ ?_
  refine V.topv (show _ = Value.int (iZ (bZ false)) from by rw [decide_eq_false hbad]) ?_
  refine q_ifz_ne hc 18 dX5_pin_11 (by decide) (fun c6 => ?_) (fun c6 => ?_)
  · cases c6
  · refine q_iconstN hc 1 dX5_pin_14 rfl ?_
    refine q_goto hc 19 dX5_pin_15 (by decide) ?_
    refine q_iconstN hc 1 dX5_pin_19 rfl ?_
    refine q_callMi (As := [.int (iZ (bZ true)), .int (iZ ((1 : Nat) : Int))]) (rest := []) hc (c_X5_fails l D K u1 ad w h nc rc true 1 hq2 (by omega)) (cwV 2 hc.1.2.2.2.2 gX5_pin_X5_fails rfl rfl rfl (by decide +kernel) ⟨Nat.le_of_ble_eq_true rfl, Nat.le_of_ble_eq_true rfl⟩) 66 hq2 rfl rfl rfl (by decide) dX5_pin_20 ⟨Nat.zero_le _, Nat.zero_le _⟩ (fun r8 u7 hp' => ?_)
    obtain ⟨hr11, hq9, fr10⟩ := hp'
    subst hr11
    have hq12 : u7[66]? = some (ad 66, mO ad w h 1 nc rc) := hq9
    refine q_ifz_eq hc 28 dX5_pin_23 (by decide) (fun c13 => ?_) (fun c13 => ?_)
    · cases c13
    · refine q_iconstN hc 0 dX5_pin_26 rfl ?_
      exact q_iretM (z := ((0 : Nat) : Int)) hc (⟨rfl, hq12, ((fr0.trans fr3 (fun _ _ => by omega)).trans fr10 (fun _ _ => by omega))⟩) hr hlk dX5_pin_27

set_option maxRecDepth 100000 in
set_option maxHeartbeats 4000000 in
theorem c_X5_pin_e2 (l : Launch) (D : va_G) (K : Nat → ClassId) (ws : va_W) (ad : Nat → Nat) (w h n th nc rc : Nat) (num : Int) (x y : Int) (pn : Nat → Nat) (pi : Nat → Nat → Nat) (h66 : ws[66]? = some (ad 66, mO ad w h th nc rc)) (m69 : ws[69]? = some (ad 69, iN K 12 pn)) (m70 : ws[70]? = some (ad 70, iN K 60 (mP pi))) (hnc : nc ≤ 12) (hnum : -2147483648 ≤ num ∧ num < 2147483648) (hx : -2147483648 ≤ x ∧ x < 2147483648) (hy : -2147483648 ≤ y ∧ y < 2147483648) (hn : n ≤ 64) (hw2 : 2 ≤ w ∧ w ≤ 8 ∧ 2 ≤ h ∧ h ≤ 8) (hxy : ∀ x y, x < w → y < h → x + w * y < n) (hpn : ∀ j, j < nc → pn j ≤ 5) (hpif : ∀ j k, j < nc → pi j k < 64) (hok : (0 ≤ num ∧ num < (nc : Int))) (hbad : (decide (0 ≤ x ∧ x < (w : Int) ∧ 0 ≤ y ∧ y < (h : Int)) && !(anyB (fun k => decide (pi num.toNat k = x.toNat + w * y.toNat)) (pn num.toNat))) = false) : MMi l yX5_pin wsX5_pin ({ frames := 1, cells := 0, slots := 0, locals := 22 }) D K ws [.ref (ad 66), .int (iZ num), .int (iZ x), .int (iZ y)] (fun r u => (r = (iZ ((0 : Nat) : Int))) ∧ (u[66]? = some (ad 66, mO ad w h 2 nc rc)) ∧ (Fr (fun j => j = 66) ws u)) := by
  refine q_entMi RX5 [(0, .ref (ad 66)), (1, .int (iZ num)), (2, .int (iZ x)), (3, .int (iZ y))] (by decide) rfl rfl (Nat.le_of_ble_eq_true rfl) rfl ?_
  intro p e s m args below meth c hc hr hlk
  have i5 : ∀ w ∈ u_ws RX5 TX5 16, w ∈ wsX5_pin := by decide +kernel
  have f52 := hc.1.2.2.2.2 (.fieldLink RX5 52 "GlobalRoutesModel" "thrown" "I") (by decide +kernel)
  have f16 := hc.1.2.2.2.2 (.fieldLink RX5 16 "GlobalRoutesModel" "pins" "[I") (by decide +kernel)
  have f19 := hc.1.2.2.2.2 (.fieldLink RX5 19 "GlobalRoutesModel" "pinCells" "[I") (by decide +kernel)
  have f45 := hc.1.2.2.2.2 (.fieldLink RX5 45 "GlobalRoutesModel" "width" "I") (by decide +kernel)
  have fr0 : Fr (fun j => j = 66) ws ws := Fr.rfl
  refine q_aload_n hc 0 dX5_pin_0 rfl ?_
  refine q_iconstN hc 0 dX5_pin_1 rfl ?_
  refine q_put (ty := .int) hc 66 0 i5 tyX5 tyX5_ok nmX5 h66 rfl (by decide) f52 rfl rfl (by decide +kernel) rfl rfl (Nat.le_of_ble_eq_true rfl) rfl dX5_pin_2 (fun u1 hn' hf' => ?_)
  have hq2 : u1[66]? = some (ad 66, mO ad w h 0 nc rc) := hn'
  have hq3 := (hf' 69 (by omega)).trans m69
  have hq4 := (hf' 70 (by omega)).trans m70
  have fr5 := Fr.one hf'
  refine q_aload_n hc 0 dX5_pin_5 rfl ?_
  refine q_aload_n hc 0 dX5_pin_6 rfl ?_
  refine q_iload_n hc 1 dX5_pin_7 rfl ?_
  refine q_callPz (As := [.int (iZ num)]) (rest := [.ref (ad 66)]) hc (c_X5_isNet l D K u1 ad w h 0 nc rc num hq2 hnc hnum) (cwV 1 hc.1.2.2.2.2 gX5_pin_X5_isNet rfl rfl rfl (by decide +kernel) ⟨Nat.le_of_ble_eq_true rfl, Nat.le_of_ble_eq_true rfl⟩) 66 hq2 rfl rfl rfl (by simp [Value.category]) dX5_pin_8 ⟨Nat.zero_le _, Nat.zero_le _⟩ ?_
  refine V.topv (show _ = Value.int (iZ (bZ true)) from by rw [decide_eq_true hok]) ?_
  refine q_ifz_ne hc 18 dX5_pin_11 (by decide) (fun c8 => ?_) (fun c8 => ?_)
  · refine q_iconstN hc 0 dX5_pin_18 rfl ?_
    refine q_iconstN hc 1 dX5_pin_19 rfl ?_
    refine q_callMi (As := [.int (iZ (bZ false)), .int (iZ ((1 : Nat) : Int))]) (rest := []) hc (c_X5_fails l D K u1 ad w h nc rc false 1 hq2 (by omega)) (cwV 2 hc.1.2.2.2.2 gX5_pin_X5_fails rfl rfl rfl (by decide +kernel) ⟨Nat.le_of_ble_eq_true rfl, Nat.le_of_ble_eq_true rfl⟩) 66 hq2 rfl rfl rfl (by decide) dX5_pin_20 ⟨Nat.zero_le _, Nat.zero_le _⟩ (fun r10 u9 hp' => ?_)
    obtain ⟨hr13, hq11, fr12⟩ := hp'
    have hq14 := (fr12.at 69 (by omega)).trans hq3
    have hq15 := (fr12.at 70 (by omega)).trans hq4
    subst hr13
    have hq16 : u9[66]? = some (ad 66, mO ad w h 0 nc rc) := hq11
    refine q_ifz_eq hc 28 dX5_pin_23 (by decide) (fun c17 => ?_) (fun c17 => ?_)
    · refine q_aload_n hc 0 dX5_pin_28 rfl ?_
      refine q_iload_n hc 2 dX5_pin_29 rfl ?_
      refine q_iload_n hc 3 dX5_pin_30 rfl ?_
      refine q_callPz (As := [.int (iZ x), .int (iZ y)]) (rest := []) hc (c_X5_isCell l D K u9 ad w h 0 nc rc x y hq16 hw2 hx hy) (cwV 2 hc.1.2.2.2.2 gX5_pin_X5_isCell rfl rfl rfl (by decide +kernel) ⟨Nat.le_of_ble_eq_true rfl, Nat.le_of_ble_eq_true rfl⟩) 66 hq16 rfl rfl rfl (by decide) dX5_pin_31 ⟨Nat.zero_le _, Nat.zero_le _⟩ ?_
      refine q_istore hc [(4, .int (iZ (bZ (decide (0 ≤ x ∧ x < (w : Int) ∧ 0 ≤ y ∧ y < (h : Int)))))), (0, .ref (ad 66)), (1, .int (iZ num)), (2, .int (iZ x)), (3, .int (iZ y))] dX5_pin_34 (by decide) rfl ?_
      refine q_iconstN hc 0 dX5_pin_36 rfl ?_
      refine q_istore hc [(5, .int (iZ ((0 : Nat) : Int))), (4, .int (iZ (bZ (decide (0 ≤ x ∧ x < (w : Int) ∧ 0 ≤ y ∧ y < (h : Int)))))), (0, .ref (ad 66)), (1, .int (iZ num)), (2, .int (iZ x)), (3, .int (iZ y))] dX5_pin_37 (by decide) rfl ?_
      refine V.sub [2, 3, 4, 5, 1, 0] rfl ?_
      refine V.loopP (α := Nat × Bool) (fun xx => pn num.toNat - xx.1) (fun xx => (xx.1 ≤ pn num.toNat) ∧ (xx.2 = (decide (0 ≤ x ∧ x < (w : Int) ∧ 0 ≤ y ∧ y < (h : Int)) && !(anyB (fun k => decide (pi num.toNat k = x.toNat + w * y.toNat)) xx.1)))) (fun xx => [(0, .ref (ad 66)), (1, .int (iZ num)), (2, .int (iZ x)), (3, .int (iZ y)), (4, .int (iZ (bZ xx.2))), (5, .int (iZ ((xx.1 : Nat) : Int)))]) (0, decide (0 ≤ x ∧ x < (w : Int) ∧ 0 ≤ y ∧ y < (h : Int))) ⟨(Nat.zero_le _), ((Bool.and_true _).symm)⟩ rfl ?_
      intro xx ih39 hI
      obtain ⟨i, q⟩ := xx
      try dsimp only at ih39 hI ⊢
      obtain ⟨hi0, hq⟩ := hI
      refine q_iload hc 5 dX5_pin_39 rfl ?_
      have u5 := hpn num.toNat (by omega)
      refine q_aload_n hc 0 dX5_pin_41 rfl ?_
      refine q_get hc 66 6 i5 hq16 rfl (by decide) f16 rfl rfl dX5_pin_42 ?_
      refine q_iload_n hc 1 dX5_pin_45 rfl ?_
      refine V.topi (show _ = ((num.toNat : Nat) : Int) from by omega) ?_
      refine q_ialdN (j := num.toNat) hc 69 hq14 rfl (by omega) (by omega) dX5_pin_46 ?_
      refine q_icmpN_ge hc 90 dX5_pin_47 (by decide) (by omega) (by omega) (fun c21 => ?_) (fun c21 => ?_)
      · obtain rfl : q = false := by rw [hq, show i = pn num.toNat by omega]; exact hbad
        refine q_aload_n hc 0 dX5_pin_90 rfl ?_
        refine q_iload hc 4 dX5_pin_91 rfl ?_
        refine q_ifz_ne hc 100 dX5_pin_93 (by decide) (fun c22 => ?_) (fun c22 => ?_)
        · cases c22
        · refine q_iconstN hc 1 dX5_pin_96 rfl ?_
          refine q_goto hc 101 dX5_pin_97 (by decide) ?_
          refine q_iconstN hc 2 dX5_pin_101 rfl ?_
          refine q_callMi (As := [.int (iZ (bZ true)), .int (iZ ((2 : Nat) : Int))]) (rest := []) hc (c_X5_fails l D K u9 ad w h nc rc true 2 hq16 (by omega)) (cwV 2 hc.1.2.2.2.2 gX5_pin_X5_fails rfl rfl rfl (by decide +kernel) ⟨Nat.le_of_ble_eq_true rfl, Nat.le_of_ble_eq_true rfl⟩) 66 hq16 rfl rfl rfl (by decide) dX5_pin_102 ⟨Nat.zero_le _, Nat.zero_le _⟩ (fun r24 u23 hp' => ?_)
          obtain ⟨hr27, hq25, fr26⟩ := hp'
          have hq28 := (fr26.at 69 (by omega)).trans hq14
          have hq29 := (fr26.at 70 (by omega)).trans hq15
          subst hr27
          have hq30 : u23[66]? = some (ad 66, mO ad w h 2 nc rc) := hq25
          refine q_ifz_ne hc 131 dX5_pin_105 (by decide) (fun c31 => ?_) (fun c31 => ?_)
          · refine q_iconstN hc 0 dX5_pin_131 rfl ?_
            exact q_iretM (z := ((0 : Nat) : Int)) hc (⟨rfl, hq30, (((fr0.trans fr5 (fun _ _ => by omega)).trans fr12 (fun _ _ => by omega)).trans fr26 (fun _ _ => by omega))⟩) hr hlk dX5_pin_132
          · cases c31
      · refine q_iload hc 4 dX5_pin_50 rfl ?_
        refine q_ifz_eq hc 81 dX5_pin_52 (by decide) (fun c32 => ?_) (fun c32 => ?_)
        · refine q_iconstN hc 0 dX5_pin_81 rfl ?_
          refine q_istore hc [(4, .int (iZ ((0 : Nat) : Int))), (0, .ref (ad 66)), (1, .int (iZ num)), (2, .int (iZ x)), (3, .int (iZ y)), (5, .int (iZ ((i : Nat) : Int)))] dX5_pin_82 (by decide) rfl ?_
          refine q_iincN (q := 5) hc 1 [(5, .int (iZ ((i + 1 : Nat) : Int))), (4, .int (iZ ((0 : Nat) : Int))), (0, .ref (ad 66)), (1, .int (iZ num)), (2, .int (iZ x)), (3, .int (iZ y))] dX5_pin_84 rfl rfl (by decide) rfl ?_
          refine q_goto hc 39 dX5_pin_87 (by decide) ?_
          refine V.sub [2, 3, 4, 5, 1, 0] rfl ?_
          exact ih39 (i + 1, false) (by omega) ⟨(by omega), (by rw [show q = false from c32] at hq; show false = (decide (0 ≤ x ∧ x < (w : Int) ∧ 0 ≤ y ∧ y < (h : Int)) && !(anyB _ i || decide (pi num.toNat i = x.toNat + w * y.toNat))); rw [Bool.not_or, ← Bool.and_assoc, ← hq]; rfl)⟩
        · have hcl9 : (0 ≤ x ∧ x < (w : Int) ∧ 0 ≤ y ∧ y < (h : Int)) := by rw [show q = true from c32] at hq; exact of_decide_eq_true (Bool.and_eq_true_iff.mp hq.symm).1
          have hq9 := hxy x.toNat y.toNat (by omega) (by omega); have hp9 := hpif num.toNat i (by omega); have e9 : mP pi (5 * num.toNat + i) = pi num.toNat i := mP_at (by omega)
          refine q_aload_n hc 0 dX5_pin_55 rfl ?_
          refine q_get hc 66 7 i5 hq16 rfl (by decide) f19 rfl rfl dX5_pin_56 ?_
          refine q_iconstN hc 5 dX5_pin_59 rfl ?_
          refine q_iload_n hc 1 dX5_pin_60 rfl ?_
          refine V.topi (show _ = ((num.toNat : Nat) : Int) from by omega) ?_
          refine q_imulN hc dX5_pin_61 ?_
          refine q_iload hc 5 dX5_pin_62 rfl ?_
          refine q_iaddN hc dX5_pin_64 ?_
          refine q_ialdN (j := 5 * num.toNat + i) hc 70 hq15 rfl (by omega) (by omega) dX5_pin_65 ?_
          refine V.topi (show _ = ((pi num.toNat i : Nat) : Int) from congrArg (fun a : Nat => (a : Int)) e9) ?_
          refine q_iload_n hc 2 dX5_pin_66 rfl ?_
          refine V.topi (show _ = ((x.toNat : Nat) : Int) from by omega) ?_
          refine q_aload_n hc 0 dX5_pin_67 rfl ?_
          refine q_get hc 66 1 i5 hq16 rfl (by decide) f45 rfl rfl dX5_pin_68 ?_
          refine q_iload_n hc 3 dX5_pin_71 rfl ?_
          refine V.topi (show _ = ((y.toNat : Nat) : Int) from by omega) ?_
          refine q_imulN hc dX5_pin_72 ?_
          refine q_iaddN hc dX5_pin_73 ?_
          refine q_icmpN_eq hc 81 dX5_pin_74 (by decide) (by omega) (by omega) (fun c33 => ?_) (fun c33 => ?_)
          · refine q_iconstN hc 0 dX5_pin_81 rfl ?_
            refine q_istore hc [(4, .int (iZ ((0 : Nat) : Int))), (0, .ref (ad 66)), (1, .int (iZ num)), (2, .int (iZ x)), (3, .int (iZ y)), (5, .int (iZ ((i : Nat) : Int)))] dX5_pin_82 (by decide) rfl ?_
            refine q_iincN (q := 5) hc 1 [(5, .int (iZ ((i + 1 : Nat) : Int))), (4, .int (iZ ((0 : Nat) : Int))), (0, .ref (ad 66)), (1, .int (iZ num)), (2, .int (iZ x)), (3, .int (iZ y))] dX5_pin_84 rfl rfl (by decide) rfl ?_
            refine q_goto hc 39 dX5_pin_87 (by decide) ?_
            refine V.sub [2, 3, 4, 5, 1, 0] rfl ?_
            exact ih39 (i + 1, false) (by omega) ⟨(by omega), (by rw [show q = true from c32] at hq; show false = (decide (0 ≤ x ∧ x < (w : Int) ∧ 0 ≤ y ∧ y < (h : Int)) && !(anyB _ i || decide (pi num.toNat i = x.toNat + w * y.toNat))); rw [Bool.not_or, ← Bool.and_assoc, ← hq, decide_eq_true (by omega)]; rfl)⟩
          · refine q_iconstN hc 1 dX5_pin_77 rfl ?_
            refine q_goto hc 82 dX5_pin_78 (by decide) ?_
            refine q_istore hc [(4, .int (iZ ((1 : Nat) : Int))), (0, .ref (ad 66)), (1, .int (iZ num)), (2, .int (iZ x)), (3, .int (iZ y)), (5, .int (iZ ((i : Nat) : Int)))] dX5_pin_82 (by decide) rfl ?_
            refine q_iincN (q := 5) hc 1 [(5, .int (iZ ((i + 1 : Nat) : Int))), (4, .int (iZ ((1 : Nat) : Int))), (0, .ref (ad 66)), (1, .int (iZ num)), (2, .int (iZ x)), (3, .int (iZ y))] dX5_pin_84 rfl rfl (by decide) rfl ?_
            refine q_goto hc 39 dX5_pin_87 (by decide) ?_
            refine V.sub [2, 3, 4, 5, 1, 0] rfl ?_
            exact ih39 (i + 1, true) (by omega) ⟨(by omega), (by rw [show q = true from c32] at hq; show true = (decide (0 ≤ x ∧ x < (w : Int) ∧ 0 ≤ y ∧ y < (h : Int)) && !(anyB _ i || decide (pi num.toNat i = x.toNat + w * y.toNat))); rw [Bool.not_or, ← Bool.and_assoc, ← hq, decide_eq_false (by omega)]; rfl)⟩
    · cases c17
  · cases c8

set_option maxRecDepth 100000 in
set_option maxHeartbeats 4000000 in
theorem c_X5_pin_e3 (l : Launch) (D : va_G) (K : Nat → ClassId) (ws : va_W) (ad : Nat → Nat) (w h n th nc rc : Nat) (num : Int) (x y : Int) (pn : Nat → Nat) (pi : Nat → Nat → Nat) (h66 : ws[66]? = some (ad 66, mO ad w h th nc rc)) (m69 : ws[69]? = some (ad 69, iN K 12 pn)) (m70 : ws[70]? = some (ad 70, iN K 60 (mP pi))) (hnc : nc ≤ 12) (hnum : -2147483648 ≤ num ∧ num < 2147483648) (hx : -2147483648 ≤ x ∧ x < 2147483648) (hy : -2147483648 ≤ y ∧ y < 2147483648) (hn : n ≤ 64) (hw2 : 2 ≤ w ∧ w ≤ 8 ∧ 2 ≤ h ∧ h ≤ 8) (hxy : ∀ x y, x < w → y < h → x + w * y < n) (hpn : ∀ j, j < nc → pn j ≤ 5) (hpif : ∀ j k, j < nc → pi j k < 64) (hok : (0 ≤ num ∧ num < (nc : Int))) (hcl : (0 ≤ x ∧ x < (w : Int) ∧ 0 ≤ y ∧ y < (h : Int))) (hnp : anyB (fun k => decide (pi num.toNat k = x.toNat + w * y.toNat)) (pn num.toNat) = false) (hp5 : ¬ pn num.toNat < 5) : MMi l yX5_pin wsX5_pin ({ frames := 1, cells := 0, slots := 0, locals := 22 }) D K ws [.ref (ad 66), .int (iZ num), .int (iZ x), .int (iZ y)] (fun r u => (r = (iZ ((0 : Nat) : Int))) ∧ (u[66]? = some (ad 66, mO ad w h 3 nc rc)) ∧ (Fr (fun j => j = 66) ws u)) := by
  refine q_entMi RX5 [(0, .ref (ad 66)), (1, .int (iZ num)), (2, .int (iZ x)), (3, .int (iZ y))] (by decide) rfl rfl (Nat.le_of_ble_eq_true rfl) rfl ?_
  intro p e s m args below meth c hc hr hlk
  have i5 : ∀ w ∈ u_ws RX5 TX5 16, w ∈ wsX5_pin := by decide +kernel
  have f52 := hc.1.2.2.2.2 (.fieldLink RX5 52 "GlobalRoutesModel" "thrown" "I") (by decide +kernel)
  have f16 := hc.1.2.2.2.2 (.fieldLink RX5 16 "GlobalRoutesModel" "pins" "[I") (by decide +kernel)
  have f19 := hc.1.2.2.2.2 (.fieldLink RX5 19 "GlobalRoutesModel" "pinCells" "[I") (by decide +kernel)
  have f45 := hc.1.2.2.2.2 (.fieldLink RX5 45 "GlobalRoutesModel" "width" "I") (by decide +kernel)
  have fr0 : Fr (fun j => j = 66) ws ws := Fr.rfl
  refine q_aload_n hc 0 dX5_pin_0 rfl ?_
  refine q_iconstN hc 0 dX5_pin_1 rfl ?_
  refine q_put (ty := .int) hc 66 0 i5 tyX5 tyX5_ok nmX5 h66 rfl (by decide) f52 rfl rfl (by decide +kernel) rfl rfl (Nat.le_of_ble_eq_true rfl) rfl dX5_pin_2 (fun u1 hn' hf' => ?_)
  have hq2 : u1[66]? = some (ad 66, mO ad w h 0 nc rc) := hn'
  have hq3 := (hf' 69 (by omega)).trans m69
  have hq4 := (hf' 70 (by omega)).trans m70
  have fr5 := Fr.one hf'
  refine q_aload_n hc 0 dX5_pin_5 rfl ?_
  refine q_aload_n hc 0 dX5_pin_6 rfl ?_
  refine q_iload_n hc 1 dX5_pin_7 rfl ?_
  refine q_callPz (As := [.int (iZ num)]) (rest := [.ref (ad 66)]) hc (c_X5_isNet l D K u1 ad w h 0 nc rc num hq2 hnc hnum) (cwV 1 hc.1.2.2.2.2 gX5_pin_X5_isNet rfl rfl rfl (by decide +kernel) ⟨Nat.le_of_ble_eq_true rfl, Nat.le_of_ble_eq_true rfl⟩) 66 hq2 rfl rfl rfl (by simp [Value.category]) dX5_pin_8 ⟨Nat.zero_le _, Nat.zero_le _⟩ ?_
  refine V.topv (show _ = Value.int (iZ (bZ true)) from by rw [decide_eq_true hok]) ?_
  refine q_ifz_ne hc 18 dX5_pin_11 (by decide) (fun c8 => ?_) (fun c8 => ?_)
  · refine q_iconstN hc 0 dX5_pin_18 rfl ?_
    refine q_iconstN hc 1 dX5_pin_19 rfl ?_
    refine q_callMi (As := [.int (iZ (bZ false)), .int (iZ ((1 : Nat) : Int))]) (rest := []) hc (c_X5_fails l D K u1 ad w h nc rc false 1 hq2 (by omega)) (cwV 2 hc.1.2.2.2.2 gX5_pin_X5_fails rfl rfl rfl (by decide +kernel) ⟨Nat.le_of_ble_eq_true rfl, Nat.le_of_ble_eq_true rfl⟩) 66 hq2 rfl rfl rfl (by decide) dX5_pin_20 ⟨Nat.zero_le _, Nat.zero_le _⟩ (fun r10 u9 hp' => ?_)
    obtain ⟨hr13, hq11, fr12⟩ := hp'
    have hq14 := (fr12.at 69 (by omega)).trans hq3
    have hq15 := (fr12.at 70 (by omega)).trans hq4
    subst hr13
    have hq16 : u9[66]? = some (ad 66, mO ad w h 0 nc rc) := hq11
    refine q_ifz_eq hc 28 dX5_pin_23 (by decide) (fun c17 => ?_) (fun c17 => ?_)
    · refine q_aload_n hc 0 dX5_pin_28 rfl ?_
      refine q_iload_n hc 2 dX5_pin_29 rfl ?_
      refine q_iload_n hc 3 dX5_pin_30 rfl ?_
      refine q_callPz (As := [.int (iZ x), .int (iZ y)]) (rest := []) hc (c_X5_isCell l D K u9 ad w h 0 nc rc x y hq16 hw2 hx hy) (cwV 2 hc.1.2.2.2.2 gX5_pin_X5_isCell rfl rfl rfl (by decide +kernel) ⟨Nat.le_of_ble_eq_true rfl, Nat.le_of_ble_eq_true rfl⟩) 66 hq16 rfl rfl rfl (by decide) dX5_pin_31 ⟨Nat.zero_le _, Nat.zero_le _⟩ ?_
      refine q_istore hc [(4, .int (iZ (bZ (decide (0 ≤ x ∧ x < (w : Int) ∧ 0 ≤ y ∧ y < (h : Int)))))), (0, .ref (ad 66)), (1, .int (iZ num)), (2, .int (iZ x)), (3, .int (iZ y))] dX5_pin_34 (by decide) rfl ?_
      refine q_iconstN hc 0 dX5_pin_36 rfl ?_
      refine q_istore hc [(5, .int (iZ ((0 : Nat) : Int))), (4, .int (iZ (bZ (decide (0 ≤ x ∧ x < (w : Int) ∧ 0 ≤ y ∧ y < (h : Int)))))), (0, .ref (ad 66)), (1, .int (iZ num)), (2, .int (iZ x)), (3, .int (iZ y))] dX5_pin_37 (by decide) rfl ?_
      refine V.sub [2, 3, 4, 5, 1, 0] rfl ?_
      refine V.loopP (α := Nat × Bool) (fun xx => pn num.toNat - xx.1) (fun xx => (xx.1 ≤ pn num.toNat) ∧ (xx.2 = (decide (0 ≤ x ∧ x < (w : Int) ∧ 0 ≤ y ∧ y < (h : Int)) && !(anyB (fun k => decide (pi num.toNat k = x.toNat + w * y.toNat)) xx.1)))) (fun xx => [(0, .ref (ad 66)), (1, .int (iZ num)), (2, .int (iZ x)), (3, .int (iZ y)), (4, .int (iZ (bZ xx.2))), (5, .int (iZ ((xx.1 : Nat) : Int)))]) (0, decide (0 ≤ x ∧ x < (w : Int) ∧ 0 ≤ y ∧ y < (h : Int))) ⟨(Nat.zero_le _), ((Bool.and_true _).symm)⟩ rfl ?_
      intro xx ih39 hI
      obtain ⟨i, q⟩ := xx
      try dsimp only at ih39 hI ⊢
      obtain ⟨hi0, hq⟩ := hI
      refine q_iload hc 5 dX5_pin_39 rfl ?_
      have u5 := hpn num.toNat (by omega)
      refine q_aload_n hc 0 dX5_pin_41 rfl ?_
      refine q_get hc 66 6 i5 hq16 rfl (by decide) f16 rfl rfl dX5_pin_42 ?_
      refine q_iload_n hc 1 dX5_pin_45 rfl ?_
      refine V.topi (show _ = ((num.toNat : Nat) : Int) from by omega) ?_
      refine q_ialdN (j := num.toNat) hc 69 hq14 rfl (by omega) (by omega) dX5_pin_46 ?_
      refine q_icmpN_ge hc 90 dX5_pin_47 (by decide) (by omega) (by omega) (fun c21 => ?_) (fun c21 => ?_)
      · obtain rfl : q = true := by rw [hq, show i = pn num.toNat by omega]; rw [decide_eq_true hcl, hnp]; rfl
        refine q_aload_n hc 0 dX5_pin_90 rfl ?_
        refine q_iload hc 4 dX5_pin_91 rfl ?_
        refine q_ifz_ne hc 100 dX5_pin_93 (by decide) (fun c22 => ?_) (fun c22 => ?_)
        · refine q_iconstN hc 0 dX5_pin_100 rfl ?_
          refine q_iconstN hc 2 dX5_pin_101 rfl ?_
          refine q_callMi (As := [.int (iZ (bZ false)), .int (iZ ((2 : Nat) : Int))]) (rest := []) hc (c_X5_fails l D K u9 ad w h nc rc false 2 hq16 (by omega)) (cwV 2 hc.1.2.2.2.2 gX5_pin_X5_fails rfl rfl rfl (by decide +kernel) ⟨Nat.le_of_ble_eq_true rfl, Nat.le_of_ble_eq_true rfl⟩) 66 hq16 rfl rfl rfl (by decide) dX5_pin_102 ⟨Nat.zero_le _, Nat.zero_le _⟩ (fun r24 u23 hp' => ?_)
          obtain ⟨hr27, hq25, fr26⟩ := hp'
          have hq28 := (fr26.at 69 (by omega)).trans hq14
          have hq29 := (fr26.at 70 (by omega)).trans hq15
          subst hr27
          have hq30 : u23[66]? = some (ad 66, mO ad w h 0 nc rc) := hq25
          refine q_ifz_ne hc 131 dX5_pin_105 (by decide) (fun c31 => ?_) (fun c31 => ?_)
          · cases c31
          · refine q_aload_n hc 0 dX5_pin_108 rfl ?_
            refine q_aload_n hc 0 dX5_pin_109 rfl ?_
            refine q_get hc 66 6 i5 hq30 rfl (by decide) f16 rfl rfl dX5_pin_110 ?_
            refine q_iload_n hc 1 dX5_pin_113 rfl ?_
            refine V.topi (show _ = ((num.toNat : Nat) : Int) from by omega) ?_
            refine q_ialdN (j := num.toNat) hc 69 hq28 rfl (by omega) (by omega) dX5_pin_114 ?_
            refine q_iconstN hc 5 dX5_pin_115 rfl ?_
            refine q_icmpN_ne hc 123 dX5_pin_116 (by decide) (by omega) (by omega) (fun c32 => ?_) (fun c32 => ?_)
            · exact absurd c32 (by omega)
            · refine q_iconstN hc 1 dX5_pin_119 rfl ?_
              refine q_goto hc 124 dX5_pin_120 (by decide) ?_
              refine q_iconstN hc 3 dX5_pin_124 rfl ?_
              refine q_callMi (As := [.int (iZ (bZ true)), .int (iZ ((3 : Nat) : Int))]) (rest := []) hc (c_X5_fails l D K u23 ad w h nc rc true 3 hq30 (by omega)) (cwV 2 hc.1.2.2.2.2 gX5_pin_X5_fails rfl rfl rfl (by decide +kernel) ⟨Nat.le_of_ble_eq_true rfl, Nat.le_of_ble_eq_true rfl⟩) 66 hq30 rfl rfl rfl (by decide) dX5_pin_125 ⟨Nat.zero_le _, Nat.zero_le _⟩ (fun r34 u33 hp' => ?_)
              obtain ⟨hr37, hq35, fr36⟩ := hp'
              have hq38 := (fr36.at 69 (by omega)).trans hq28
              have hq39 := (fr36.at 70 (by omega)).trans hq29
              subst hr37
              have hq40 : u33[66]? = some (ad 66, mO ad w h 3 nc rc) := hq35
              refine q_ifz_eq hc 133 dX5_pin_128 (by decide) (fun c41 => ?_) (fun c41 => ?_)
              · cases c41
              · refine q_iconstN hc 0 dX5_pin_131 rfl ?_
                exact q_iretM (z := ((0 : Nat) : Int)) hc (⟨rfl, hq40, ((((fr0.trans fr5 (fun _ _ => by omega)).trans fr12 (fun _ _ => by omega)).trans fr26 (fun _ _ => by omega)).trans fr36 (fun _ _ => by omega))⟩) hr hlk dX5_pin_132
        · cases c22
      · refine q_iload hc 4 dX5_pin_50 rfl ?_
        refine q_ifz_eq hc 81 dX5_pin_52 (by decide) (fun c42 => ?_) (fun c42 => ?_)
        · refine q_iconstN hc 0 dX5_pin_81 rfl ?_
          refine q_istore hc [(4, .int (iZ ((0 : Nat) : Int))), (0, .ref (ad 66)), (1, .int (iZ num)), (2, .int (iZ x)), (3, .int (iZ y)), (5, .int (iZ ((i : Nat) : Int)))] dX5_pin_82 (by decide) rfl ?_
          refine q_iincN (q := 5) hc 1 [(5, .int (iZ ((i + 1 : Nat) : Int))), (4, .int (iZ ((0 : Nat) : Int))), (0, .ref (ad 66)), (1, .int (iZ num)), (2, .int (iZ x)), (3, .int (iZ y))] dX5_pin_84 rfl rfl (by decide) rfl ?_
          refine q_goto hc 39 dX5_pin_87 (by decide) ?_
          refine V.sub [2, 3, 4, 5, 1, 0] rfl ?_
          exact ih39 (i + 1, false) (by omega) ⟨(by omega), (by rw [show q = false from c42] at hq; show false = (decide (0 ≤ x ∧ x < (w : Int) ∧ 0 ≤ y ∧ y < (h : Int)) && !(anyB _ i || decide (pi num.toNat i = x.toNat + w * y.toNat))); rw [Bool.not_or, ← Bool.and_assoc, ← hq]; rfl)⟩
        · have hcl9 : (0 ≤ x ∧ x < (w : Int) ∧ 0 ≤ y ∧ y < (h : Int)) := by rw [show q = true from c42] at hq; exact of_decide_eq_true (Bool.and_eq_true_iff.mp hq.symm).1
          have hq9 := hxy x.toNat y.toNat (by omega) (by omega); have hp9 := hpif num.toNat i (by omega); have e9 : mP pi (5 * num.toNat + i) = pi num.toNat i := mP_at (by omega)
          refine q_aload_n hc 0 dX5_pin_55 rfl ?_
          refine q_get hc 66 7 i5 hq16 rfl (by decide) f19 rfl rfl dX5_pin_56 ?_
          refine q_iconstN hc 5 dX5_pin_59 rfl ?_
          refine q_iload_n hc 1 dX5_pin_60 rfl ?_
          refine V.topi (show _ = ((num.toNat : Nat) : Int) from by omega) ?_
          refine q_imulN hc dX5_pin_61 ?_
          refine q_iload hc 5 dX5_pin_62 rfl ?_
          refine q_iaddN hc dX5_pin_64 ?_
          refine q_ialdN (j := 5 * num.toNat + i) hc 70 hq15 rfl (by omega) (by omega) dX5_pin_65 ?_
          refine V.topi (show _ = ((pi num.toNat i : Nat) : Int) from congrArg (fun a : Nat => (a : Int)) e9) ?_
          refine q_iload_n hc 2 dX5_pin_66 rfl ?_
          refine V.topi (show _ = ((x.toNat : Nat) : Int) from by omega) ?_
          refine q_aload_n hc 0 dX5_pin_67 rfl ?_
          refine q_get hc 66 1 i5 hq16 rfl (by decide) f45 rfl rfl dX5_pin_68 ?_
          refine q_iload_n hc 3 dX5_pin_71 rfl ?_
          refine V.topi (show _ = ((y.toNat : Nat) : Int) from by omega) ?_
          refine q_imulN hc dX5_pin_72 ?_
          refine q_iaddN hc dX5_pin_73 ?_
          refine q_icmpN_eq hc 81 dX5_pin_74 (by decide) (by omega) (by omega) (fun c43 => ?_) (fun c43 => ?_)
          · refine q_iconstN hc 0 dX5_pin_81 rfl ?_
            refine q_istore hc [(4, .int (iZ ((0 : Nat) : Int))), (0, .ref (ad 66)), (1, .int (iZ num)), (2, .int (iZ x)), (3, .int (iZ y)), (5, .int (iZ ((i : Nat) : Int)))] dX5_pin_82 (by decide) rfl ?_
            refine q_iincN (q := 5) hc 1 [(5, .int (iZ ((i + 1 : Nat) : Int))), (4, .int (iZ ((0 : Nat) : Int))), (0, .ref (ad 66)), (1, .int (iZ num)), (2, .int (iZ x)), (3, .int (iZ y))] dX5_pin_84 rfl rfl (by decide) rfl ?_
            refine q_goto hc 39 dX5_pin_87 (by decide) ?_
            refine V.sub [2, 3, 4, 5, 1, 0] rfl ?_
            exact ih39 (i + 1, false) (by omega) ⟨(by omega), (by rw [show q = true from c42] at hq; show false = (decide (0 ≤ x ∧ x < (w : Int) ∧ 0 ≤ y ∧ y < (h : Int)) && !(anyB _ i || decide (pi num.toNat i = x.toNat + w * y.toNat))); rw [Bool.not_or, ← Bool.and_assoc, ← hq, decide_eq_true (by omega)]; rfl)⟩
          · refine q_iconstN hc 1 dX5_pin_77 rfl ?_
            refine q_goto hc 82 dX5_pin_78 (by decide) ?_
            refine q_istore hc [(4, .int (iZ ((1 : Nat) : Int))), (0, .ref (ad 66)), (1, .int (iZ num)), (2, .int (iZ x)), (3, .int (iZ y)), (5, .int (iZ ((i : Nat) : Int)))] dX5_pin_82 (by decide) rfl ?_
            refine q_iincN (q := 5) hc 1 [(5, .int (iZ ((i + 1 : Nat) : Int))), (4, .int (iZ ((1 : Nat) : Int))), (0, .ref (ad 66)), (1, .int (iZ num)), (2, .int (iZ x)), (3, .int (iZ y))] dX5_pin_84 rfl rfl (by decide) rfl ?_
            refine q_goto hc 39 dX5_pin_87 (by decide) ?_
            refine V.sub [2, 3, 4, 5, 1, 0] rfl ?_
            exact ih39 (i + 1, true) (by omega) ⟨(by omega), (by rw [show q = true from c42] at hq; show true = (decide (0 ≤ x ∧ x < (w : Int) ∧ 0 ≤ y ∧ y < (h : Int)) && !(anyB _ i || decide (pi num.toNat i = x.toNat + w * y.toNat))); rw [Bool.not_or, ← Bool.and_assoc, ← hq, decide_eq_false (by omega)]; rfl)⟩
    · cases c17
  · cases c8

set_option maxRecDepth 100000 in
set_option maxHeartbeats 4000000 in
theorem c_X5_rip (l : Launch) (D : va_G) (K : Nat → ClassId) (ws : va_W) (ad : Nat → Nat) (w h n th nc rc : Nat) (num : Int) (rl : Nat → Int) (ro : Nat → Nat → Bool) (h66 : ws[66]? = some (ad 66, mO ad w h th nc rc)) (m71 : ws[71]? = some (ad 71, zA K 12 (mHr rl))) (m72 : ws[72]? = some (ad 72, zA K 1536 (mRo n ro))) (hnc : nc ≤ 12) (hnum : -2147483648 ≤ num ∧ num < 2147483648) (hn : n ≤ 64) (hok : (0 ≤ num ∧ num < (nc : Int))) (hRL : RLc n nc ro rl) (hR0 : RO0 n nc ro rl) : MMi l yX5_rip wsX5_rip ({ frames := 1, cells := 0, slots := 0, locals := 23 }) D K ws [.ref (ad 66), .int (iZ num)] (fun r u => (r = (iZ (rl num.toNat))) ∧ (u[66]? = some (ad 66, mO ad w h 0 nc rc)) ∧ (u[72]? = some (ad 72, zA K 1536 (mRo n (va_up ro num.toNat (fun _ => false))))) ∧ (u[71]? = some (ad 71, zA K 12 (mHr (va_up rl num.toNat (-1))))) ∧ (Fr (fun j => j = 66 ∨ j = 72 ∨ j = 71) ws u)) := by
  refine q_entMi RX5 [(0, .ref (ad 66)), (1, .int (iZ num))] (by decide) rfl rfl (Nat.le_of_ble_eq_true rfl) rfl ?_
  intro p e s m args below meth c hc hr hlk
  have i5 : ∀ w ∈ u_ws RX5 TX5 16, w ∈ wsX5_rip := by decide +kernel
  have f52 := hc.1.2.2.2.2 (.fieldLink RX5 52 "GlobalRoutesModel" "thrown" "I") (by decide +kernel)
  have f22 := hc.1.2.2.2.2 (.fieldLink RX5 22 "GlobalRoutesModel" "hasRoute" "[Z") (by decide +kernel)
  have fr0 : Fr (fun j => j = 66 ∨ j = 72 ∨ j = 71) ws ws := Fr.rfl
  refine q_aload_n hc 0 dX5_rip_0 rfl ?_
  refine q_iconstN hc 0 dX5_rip_1 rfl ?_
  refine q_put (ty := .int) hc 66 0 i5 tyX5 tyX5_ok nmX5 h66 rfl (by decide) f52 rfl rfl (by decide +kernel) rfl rfl (Nat.le_of_ble_eq_true rfl) rfl dX5_rip_2 (fun u1 hn' hf' => ?_)
  have hq2 : u1[66]? = some (ad 66, mO ad w h 0 nc rc) := hn'
  have hq3 := (hf' 71 (by omega)).trans m71
  have hq4 := (hf' 72 (by omega)).trans m72
  have fr5 := Fr.one hf'
  refine q_aload_n hc 0 dX5_rip_5 rfl ?_
  refine q_aload_n hc 0 dX5_rip_6 rfl ?_
  refine q_iload_n hc 1 dX5_rip_7 rfl ?_
  refine q_callPz (As := [.int (iZ num)]) (rest := [.ref (ad 66)]) hc (c_X5_isNet l D K u1 ad w h 0 nc rc num hq2 hnc hnum) (cwV 1 hc.1.2.2.2.2 gX5_rip_X5_isNet rfl rfl rfl (by decide +kernel) ⟨Nat.le_of_ble_eq_true rfl, Nat.le_of_ble_eq_true rfl⟩) 66 hq2 rfl rfl rfl (by simp [Value.category]) dX5_rip_8 ⟨Nat.zero_le _, Nat.zero_le _⟩ ?_
  refine V.topv (show _ = Value.int (iZ (bZ true)) from by rw [decide_eq_true hok]) ?_
  refine q_ifz_ne hc 18 dX5_rip_11 (by decide) (fun c8 => ?_) (fun c8 => ?_)
  · refine q_iconstN hc 0 dX5_rip_18 rfl ?_
    refine q_iconstN hc 1 dX5_rip_19 rfl ?_
    refine q_callMi (As := [.int (iZ (bZ false)), .int (iZ ((1 : Nat) : Int))]) (rest := []) hc (c_X5_fails l D K u1 ad w h nc rc false 1 hq2 (by omega)) (cwV 2 hc.1.2.2.2.2 gX5_rip_X5_fails rfl rfl rfl (by decide +kernel) ⟨Nat.le_of_ble_eq_true rfl, Nat.le_of_ble_eq_true rfl⟩) 66 hq2 rfl rfl rfl (by decide) dX5_rip_20 ⟨Nat.zero_le _, Nat.zero_le _⟩ (fun r10 u9 hp' => ?_)
    obtain ⟨hr13, hq11, fr12⟩ := hp'
    have hq14 := (fr12.at 71 (by omega)).trans hq3
    have hq15 := (fr12.at 72 (by omega)).trans hq4
    subst hr13
    have hq16 : u9[66]? = some (ad 66, mO ad w h 0 nc rc) := hq11
    refine q_ifz_eq hc 28 dX5_rip_23 (by decide) (fun c17 => ?_) (fun c17 => ?_)
    · refine q_aload_n hc 0 dX5_rip_28 rfl ?_
      refine q_get hc 66 8 i5 hq16 rfl (by decide) f22 rfl rfl dX5_rip_29 ?_
      refine q_iload_n hc 1 dX5_rip_32 rfl ?_
      refine V.topi (show _ = ((num.toNat : Nat) : Int) from by omega) ?_
      refine q_zald (j := num.toNat) hc 71 hq14 rfl (by omega) (by omega) dX5_rip_33 ?_
      refine q_ifz_eq hc 45 dX5_rip_34 (by decide) (fun c18 => ?_) (fun c18 => ?_)
      · have e8 : rl num.toNat = -1 := by have e7 := of_decide_eq_false (show decide (¬ rl num.toNat = -1) = false from c18); omega
        refine q_norm_zA (g := mRo n (va_up ro num.toNat (fun _ => false))) hc 72 hq15 (fun k _ => mRo_no (hR0 num.toNat (by omega) e8) k) (fun u19 hn' hf' => ?_)
        have hq20 : u19[72]? = some (ad 72, zA K 1536 (mRo n (va_up ro num.toNat (fun _ => false)))) := hn'
        have hq21 := (hf' 66 (by omega)).trans hq16
        have hq22 := (hf' 71 (by omega)).trans hq14
        have fr23 := Fr.one hf'
        refine q_norm_zA (g := mHr (va_up rl num.toNat (-1))) hc 71 hq22 (fun k _ => mHr_no e8 k) (fun u24 hn' hf' => ?_)
        have hq25 : u24[71]? = some (ad 71, zA K 12 (mHr (va_up rl num.toNat (-1)))) := hn'
        have hq26 := (hf' 66 (by omega)).trans hq21
        have hq27 := (hf' 72 (by omega)).trans hq20
        have fr28 := Fr.one hf'
        refine q_iconst hc dX5_rip_45 ?_
        exact q_iretM (z := (-1)) hc (⟨congrArg iZ (e8.symm), hq26, hq27, hq25, ((((fr0.trans fr5 (fun _ _ => by omega)).trans fr12 (fun _ _ => by omega)).trans fr23 (fun _ _ => by omega)).trans fr28 (fun _ _ => by omega))⟩) hr hlk dX5_rip_46
      · refine q_aload_n hc 0 dX5_rip_37 rfl ?_
        refine q_iload_n hc 1 dX5_rip_38 rfl ?_
        refine V.topi (show _ = ((num.toNat : Nat) : Int) from by omega) ?_
        refine q_callMi (As := [.int (iZ ((num.toNat : Nat) : Int))]) (rest := []) hc (c_X5_forgetRoute l D K u9 ad w h n 0 nc rc num.toNat ro rl hq16 hq14 hq15 (by omega) hn) (cwV 1 hc.1.2.2.2.2 gX5_rip_X5_forgetRoute rfl rfl rfl (by decide +kernel) ⟨Nat.le_of_ble_eq_true rfl, Nat.le_of_ble_eq_true rfl⟩) 66 hq16 rfl rfl rfl (by decide) dX5_rip_39 ⟨Nat.zero_le _, Nat.zero_le _⟩ (fun r30 u29 hp' => ?_)
        obtain ⟨hr34, hq31, hq32, fr33⟩ := hp'
        have hq35 := (fr33.at 66 (by omega)).trans hq16
        subst hr34
        refine q_goto hc 46 dX5_rip_42 (by decide) ?_
        exact q_iretM (z := ((cnt (ro num.toNat) (2 * n) : Nat) : Int)) hc (⟨congrArg iZ ((hRL num.toNat (by omega)).resolve_left (of_decide_eq_true (show decide (¬ rl num.toNat = -1) = true from c18)) |>.symm), hq35, hq31, hq32, (((fr0.trans fr5 (fun _ _ => by omega)).trans fr12 (fun _ _ => by omega)).trans fr33 (fun _ _ => by omega))⟩) hr hlk dX5_rip_46
    · cases c17
  · cases c8

set_option maxRecDepth 100000 in
set_option maxHeartbeats 4000000 in
theorem c_X5_rip_e1 (l : Launch) (D : va_G) (K : Nat → ClassId) (ws : va_W) (ad : Nat → Nat) (w h th nc rc : Nat) (num : Int) (h66 : ws[66]? = some (ad 66, mO ad w h th nc rc)) (hnc : nc ≤ 12) (hnum : -2147483648 ≤ num ∧ num < 2147483648) (hbad : ¬ (0 ≤ num ∧ num < (nc : Int))) : MMi l yX5_rip wsX5_rip ({ frames := 1, cells := 0, slots := 0, locals := 22 }) D K ws [.ref (ad 66), .int (iZ num)] (fun r u => (r = (iZ ((0 : Nat) : Int))) ∧ (u[66]? = some (ad 66, mO ad w h 1 nc rc)) ∧ (Fr (fun j => j = 66) ws u)) := by
  refine q_entMi RX5 [(0, .ref (ad 66)), (1, .int (iZ num))] (by decide) rfl rfl (Nat.le_of_ble_eq_true rfl) rfl ?_
  intro p e s m args below meth c hc hr hlk
  have i5 : ∀ w ∈ u_ws RX5 TX5 16, w ∈ wsX5_rip := by decide +kernel
  have f52 := hc.1.2.2.2.2 (.fieldLink RX5 52 "GlobalRoutesModel" "thrown" "I") (by decide +kernel)
  have fr0 : Fr (fun j => j = 66) ws ws := Fr.rfl
  refine q_aload_n hc 0 dX5_rip_0 rfl ?_
  refine q_iconstN hc 0 dX5_rip_1 rfl ?_
  refine q_put (ty := .int) hc 66 0 i5 tyX5 tyX5_ok nmX5 h66 rfl (by decide) f52 rfl rfl (by decide +kernel) rfl rfl (Nat.le_of_ble_eq_true rfl) rfl dX5_rip_2 (fun u1 hn' hf' => ?_)
  have hq2 : u1[66]? = some (ad 66, mO ad w h 0 nc rc) := hn'
  have fr3 := Fr.one hf'
  refine q_aload_n hc 0 dX5_rip_5 rfl ?_
  refine q_aload_n hc 0 dX5_rip_6 rfl ?_
  refine q_iload_n hc 1 dX5_rip_7 rfl ?_
  refine q_callPz (As := [.int (iZ num)]) (rest := [.ref (ad 66)]) hc (c_X5_isNet l D K u1 ad w h 0 nc rc num hq2 hnc hnum) (cwV 1 hc.1.2.2.2.2 gX5_rip_X5_isNet rfl rfl rfl (by decide +kernel) ⟨Nat.le_of_ble_eq_true rfl, Nat.le_of_ble_eq_true rfl⟩) 66 hq2 rfl rfl rfl (by simp [Value.category]) dX5_rip_8 ⟨Nat.zero_le _, Nat.zero_le _⟩ ?_
  refine V.topv (show _ = Value.int (iZ (bZ false)) from by rw [decide_eq_false hbad]) ?_
  refine q_ifz_ne hc 18 dX5_rip_11 (by decide) (fun c6 => ?_) (fun c6 => ?_)
  · cases c6
  · refine q_iconstN hc 1 dX5_rip_14 rfl ?_
    refine q_goto hc 19 dX5_rip_15 (by decide) ?_
    refine q_iconstN hc 1 dX5_rip_19 rfl ?_
    refine q_callMi (As := [.int (iZ (bZ true)), .int (iZ ((1 : Nat) : Int))]) (rest := []) hc (c_X5_fails l D K u1 ad w h nc rc true 1 hq2 (by omega)) (cwV 2 hc.1.2.2.2.2 gX5_rip_X5_fails rfl rfl rfl (by decide +kernel) ⟨Nat.le_of_ble_eq_true rfl, Nat.le_of_ble_eq_true rfl⟩) 66 hq2 rfl rfl rfl (by decide) dX5_rip_20 ⟨Nat.zero_le _, Nat.zero_le _⟩ (fun r8 u7 hp' => ?_)
    obtain ⟨hr11, hq9, fr10⟩ := hp'
    subst hr11
    have hq12 : u7[66]? = some (ad 66, mO ad w h 1 nc rc) := hq9
    refine q_ifz_eq hc 28 dX5_rip_23 (by decide) (fun c13 => ?_) (fun c13 => ?_)
    · cases c13
    · refine q_iconstN hc 0 dX5_rip_26 rfl ?_
      exact q_iretM (z := ((0 : Nat) : Int)) hc (⟨rfl, hq12, ((fr0.trans fr3 (fun _ _ => by omega)).trans fr10 (fun _ _ => by omega))⟩) hr hlk dX5_rip_27

set_option maxRecDepth 100000 in
set_option maxHeartbeats 4000000 in
theorem c_X5_length (l : Launch) (D : va_G) (K : Nat → ClassId) (ws : va_W) (ad : Nat → Nat) (w h n th nc rc : Nat) (num : Int) (rl : Nat → Int) (ro : Nat → Nat → Bool) (h66 : ws[66]? = some (ad 66, mO ad w h th nc rc)) (m71 : ws[71]? = some (ad 71, zA K 12 (mHr rl))) (m72 : ws[72]? = some (ad 72, zA K 1536 (mRo n ro))) (hnc : nc ≤ 12) (hnum : -2147483648 ≤ num ∧ num < 2147483648) (hn : n ≤ 64) (hok : (0 ≤ num ∧ num < (nc : Int))) (hRL : RLc n nc ro rl) : MMi l yX5_length wsX5_length ({ frames := 1, cells := 0, slots := 0, locals := 23 }) D K ws [.ref (ad 66), .int (iZ num)] (fun r u => (r = (iZ (rl num.toNat))) ∧ (u[66]? = some (ad 66, mO ad w h 0 nc rc)) ∧ (Fr (fun j => j = 66) ws u)) := by
  refine q_entMi RX5 [(0, .ref (ad 66)), (1, .int (iZ num))] (by decide) rfl rfl (Nat.le_of_ble_eq_true rfl) rfl ?_
  intro p e s m args below meth c hc hr hlk
  have i5 : ∀ w ∈ u_ws RX5 TX5 16, w ∈ wsX5_length := by decide +kernel
  have f52 := hc.1.2.2.2.2 (.fieldLink RX5 52 "GlobalRoutesModel" "thrown" "I") (by decide +kernel)
  have f22 := hc.1.2.2.2.2 (.fieldLink RX5 22 "GlobalRoutesModel" "hasRoute" "[Z") (by decide +kernel)
  have fr0 : Fr (fun j => j = 66) ws ws := Fr.rfl
  refine q_aload_n hc 0 dX5_length_0 rfl ?_
  refine q_iconstN hc 0 dX5_length_1 rfl ?_
  refine q_put (ty := .int) hc 66 0 i5 tyX5 tyX5_ok nmX5 h66 rfl (by decide) f52 rfl rfl (by decide +kernel) rfl rfl (Nat.le_of_ble_eq_true rfl) rfl dX5_length_2 (fun u1 hn' hf' => ?_)
  have hq2 : u1[66]? = some (ad 66, mO ad w h 0 nc rc) := hn'
  have hq3 := (hf' 71 (by omega)).trans m71
  have hq4 := (hf' 72 (by omega)).trans m72
  have fr5 := Fr.one hf'
  refine q_aload_n hc 0 dX5_length_5 rfl ?_
  refine q_aload_n hc 0 dX5_length_6 rfl ?_
  refine q_iload_n hc 1 dX5_length_7 rfl ?_
  refine q_callPz (As := [.int (iZ num)]) (rest := [.ref (ad 66)]) hc (c_X5_isNet l D K u1 ad w h 0 nc rc num hq2 hnc hnum) (cwV 1 hc.1.2.2.2.2 gX5_length_X5_isNet rfl rfl rfl (by decide +kernel) ⟨Nat.le_of_ble_eq_true rfl, Nat.le_of_ble_eq_true rfl⟩) 66 hq2 rfl rfl rfl (by simp [Value.category]) dX5_length_8 ⟨Nat.zero_le _, Nat.zero_le _⟩ ?_
  refine V.topv (show _ = Value.int (iZ (bZ true)) from by rw [decide_eq_true hok]) ?_
  refine q_ifz_ne hc 18 dX5_length_11 (by decide) (fun c8 => ?_) (fun c8 => ?_)
  · refine q_iconstN hc 0 dX5_length_18 rfl ?_
    refine q_iconstN hc 1 dX5_length_19 rfl ?_
    refine q_callMi (As := [.int (iZ (bZ false)), .int (iZ ((1 : Nat) : Int))]) (rest := []) hc (c_X5_fails l D K u1 ad w h nc rc false 1 hq2 (by omega)) (cwV 2 hc.1.2.2.2.2 gX5_length_X5_fails rfl rfl rfl (by decide +kernel) ⟨Nat.le_of_ble_eq_true rfl, Nat.le_of_ble_eq_true rfl⟩) 66 hq2 rfl rfl rfl (by decide) dX5_length_20 ⟨Nat.zero_le _, Nat.zero_le _⟩ (fun r10 u9 hp' => ?_)
    obtain ⟨hr13, hq11, fr12⟩ := hp'
    have hq14 := (fr12.at 71 (by omega)).trans hq3
    have hq15 := (fr12.at 72 (by omega)).trans hq4
    subst hr13
    have hq16 : u9[66]? = some (ad 66, mO ad w h 0 nc rc) := hq11
    refine q_ifz_eq hc 28 dX5_length_23 (by decide) (fun c17 => ?_) (fun c17 => ?_)
    · refine q_aload_n hc 0 dX5_length_28 rfl ?_
      refine q_get hc 66 8 i5 hq16 rfl (by decide) f22 rfl rfl dX5_length_29 ?_
      refine q_iload_n hc 1 dX5_length_32 rfl ?_
      refine V.topi (show _ = ((num.toNat : Nat) : Int) from by omega) ?_
      refine q_zald (j := num.toNat) hc 71 hq14 rfl (by omega) (by omega) dX5_length_33 ?_
      refine q_ifz_eq hc 45 dX5_length_34 (by decide) (fun c18 => ?_) (fun c18 => ?_)
      · have e8 : rl num.toNat = -1 := by have e7 := of_decide_eq_false (show decide (¬ rl num.toNat = -1) = false from c18); omega
        refine q_iconst hc dX5_length_45 ?_
        exact q_iretM (z := (-1)) hc (⟨congrArg iZ (e8.symm), hq16, ((fr0.trans fr5 (fun _ _ => by omega)).trans fr12 (fun _ _ => by omega))⟩) hr hlk dX5_length_46
      · refine q_aload_n hc 0 dX5_length_37 rfl ?_
        refine q_iload_n hc 1 dX5_length_38 rfl ?_
        refine V.topi (show _ = ((num.toNat : Nat) : Int) from by omega) ?_
        refine q_callPn (As := [.int (iZ ((num.toNat : Nat) : Int))]) (rest := []) hc (c_X5_lengthOf l D K u9 ad w h n 0 nc rc num.toNat ro hq16 hq15 (by omega) hn) (cwV 1 hc.1.2.2.2.2 gX5_length_X5_lengthOf rfl rfl rfl (by decide +kernel) ⟨Nat.le_of_ble_eq_true rfl, Nat.le_of_ble_eq_true rfl⟩) 66 hq16 rfl rfl rfl (by decide) dX5_length_39 ⟨Nat.zero_le _, Nat.zero_le _⟩ ?_
        refine q_goto hc 46 dX5_length_42 (by decide) ?_
        exact q_iretM (z := ((cnt (ro num.toNat) (2 * n) : Nat) : Int)) hc (⟨congrArg iZ ((hRL num.toNat (by omega)).resolve_left (of_decide_eq_true (show decide (¬ rl num.toNat = -1) = true from c18)) |>.symm), hq16, ((fr0.trans fr5 (fun _ _ => by omega)).trans fr12 (fun _ _ => by omega))⟩) hr hlk dX5_length_46
    · cases c17
  · cases c8

set_option maxRecDepth 100000 in
set_option maxHeartbeats 4000000 in
theorem c_X5_length_e1 (l : Launch) (D : va_G) (K : Nat → ClassId) (ws : va_W) (ad : Nat → Nat) (w h th nc rc : Nat) (num : Int) (h66 : ws[66]? = some (ad 66, mO ad w h th nc rc)) (hnc : nc ≤ 12) (hnum : -2147483648 ≤ num ∧ num < 2147483648) (hbad : ¬ (0 ≤ num ∧ num < (nc : Int))) : MMi l yX5_length wsX5_length ({ frames := 1, cells := 0, slots := 0, locals := 22 }) D K ws [.ref (ad 66), .int (iZ num)] (fun r u => (r = (iZ ((0 : Nat) : Int))) ∧ (u[66]? = some (ad 66, mO ad w h 1 nc rc)) ∧ (Fr (fun j => j = 66) ws u)) := by
  refine q_entMi RX5 [(0, .ref (ad 66)), (1, .int (iZ num))] (by decide) rfl rfl (Nat.le_of_ble_eq_true rfl) rfl ?_
  intro p e s m args below meth c hc hr hlk
  have i5 : ∀ w ∈ u_ws RX5 TX5 16, w ∈ wsX5_length := by decide +kernel
  have f52 := hc.1.2.2.2.2 (.fieldLink RX5 52 "GlobalRoutesModel" "thrown" "I") (by decide +kernel)
  have fr0 : Fr (fun j => j = 66) ws ws := Fr.rfl
  refine q_aload_n hc 0 dX5_length_0 rfl ?_
  refine q_iconstN hc 0 dX5_length_1 rfl ?_
  refine q_put (ty := .int) hc 66 0 i5 tyX5 tyX5_ok nmX5 h66 rfl (by decide) f52 rfl rfl (by decide +kernel) rfl rfl (Nat.le_of_ble_eq_true rfl) rfl dX5_length_2 (fun u1 hn' hf' => ?_)
  have hq2 : u1[66]? = some (ad 66, mO ad w h 0 nc rc) := hn'
  have fr3 := Fr.one hf'
  refine q_aload_n hc 0 dX5_length_5 rfl ?_
  refine q_aload_n hc 0 dX5_length_6 rfl ?_
  refine q_iload_n hc 1 dX5_length_7 rfl ?_
  refine q_callPz (As := [.int (iZ num)]) (rest := [.ref (ad 66)]) hc (c_X5_isNet l D K u1 ad w h 0 nc rc num hq2 hnc hnum) (cwV 1 hc.1.2.2.2.2 gX5_length_X5_isNet rfl rfl rfl (by decide +kernel) ⟨Nat.le_of_ble_eq_true rfl, Nat.le_of_ble_eq_true rfl⟩) 66 hq2 rfl rfl rfl (by simp [Value.category]) dX5_length_8 ⟨Nat.zero_le _, Nat.zero_le _⟩ ?_
  refine V.topv (show _ = Value.int (iZ (bZ false)) from by rw [decide_eq_false hbad]) ?_
  refine q_ifz_ne hc 18 dX5_length_11 (by decide) (fun c6 => ?_) (fun c6 => ?_)
  · cases c6
  · refine q_iconstN hc 1 dX5_length_14 rfl ?_
    refine q_goto hc 19 dX5_length_15 (by decide) ?_
    refine q_iconstN hc 1 dX5_length_19 rfl ?_
    refine q_callMi (As := [.int (iZ (bZ true)), .int (iZ ((1 : Nat) : Int))]) (rest := []) hc (c_X5_fails l D K u1 ad w h nc rc true 1 hq2 (by omega)) (cwV 2 hc.1.2.2.2.2 gX5_length_X5_fails rfl rfl rfl (by decide +kernel) ⟨Nat.le_of_ble_eq_true rfl, Nat.le_of_ble_eq_true rfl⟩) 66 hq2 rfl rfl rfl (by decide) dX5_length_20 ⟨Nat.zero_le _, Nat.zero_le _⟩ (fun r8 u7 hp' => ?_)
    obtain ⟨hr11, hq9, fr10⟩ := hp'
    subst hr11
    have hq12 : u7[66]? = some (ad 66, mO ad w h 1 nc rc) := hq9
    refine q_ifz_eq hc 28 dX5_length_23 (by decide) (fun c13 => ?_) (fun c13 => ?_)
    · cases c13
    · refine q_iconstN hc 0 dX5_length_26 rfl ?_
      exact q_iretM (z := ((0 : Nat) : Int)) hc (⟨rfl, hq12, ((fr0.trans fr3 (fun _ _ => by omega)).trans fr10 (fun _ _ => by omega))⟩) hr hlk dX5_length_27

set_option maxRecDepth 100000 in
set_option maxHeartbeats 4000000 in
theorem c_X5_least_e1 (l : Launch) (D : va_G) (K : Nat → ClassId) (ws : va_W) (ad : Nat → Nat) (w h th nc rc : Nat) (num : Int) (h66 : ws[66]? = some (ad 66, mO ad w h th nc rc)) (hnc : nc ≤ 12) (hnum : -2147483648 ≤ num ∧ num < 2147483648) (hbad : ¬ (0 ≤ num ∧ num < (nc : Int))) : MMi l yX5_least wsX5_least ({ frames := 1, cells := 0, slots := 0, locals := 22 }) D K ws [.ref (ad 66), .int (iZ num)] (fun r u => (r = (iZ ((0 : Nat) : Int))) ∧ (u[66]? = some (ad 66, mO ad w h 1 nc rc)) ∧ (Fr (fun j => j = 66) ws u)) := by
  refine q_entMi RX5 [(0, .ref (ad 66)), (1, .int (iZ num))] (by decide) rfl rfl (Nat.le_of_ble_eq_true rfl) rfl ?_
  intro p e s m args below meth c hc hr hlk
  have i5 : ∀ w ∈ u_ws RX5 TX5 16, w ∈ wsX5_least := by decide +kernel
  have f52 := hc.1.2.2.2.2 (.fieldLink RX5 52 "GlobalRoutesModel" "thrown" "I") (by decide +kernel)
  have fr0 : Fr (fun j => j = 66) ws ws := Fr.rfl
  refine q_aload_n hc 0 dX5_least_0 rfl ?_
  refine q_iconstN hc 0 dX5_least_1 rfl ?_
  refine q_put (ty := .int) hc 66 0 i5 tyX5 tyX5_ok nmX5 h66 rfl (by decide) f52 rfl rfl (by decide +kernel) rfl rfl (Nat.le_of_ble_eq_true rfl) rfl dX5_least_2 (fun u1 hn' hf' => ?_)
  have hq2 : u1[66]? = some (ad 66, mO ad w h 0 nc rc) := hn'
  have fr3 := Fr.one hf'
  refine q_aload_n hc 0 dX5_least_5 rfl ?_
  refine q_aload_n hc 0 dX5_least_6 rfl ?_
  refine q_iload_n hc 1 dX5_least_7 rfl ?_
  refine q_callPz (As := [.int (iZ num)]) (rest := [.ref (ad 66)]) hc (c_X5_isNet l D K u1 ad w h 0 nc rc num hq2 hnc hnum) (cwV 1 hc.1.2.2.2.2 gX5_least_X5_isNet rfl rfl rfl (by decide +kernel) ⟨Nat.le_of_ble_eq_true rfl, Nat.le_of_ble_eq_true rfl⟩) 66 hq2 rfl rfl rfl (by simp [Value.category]) dX5_least_8 ⟨Nat.zero_le _, Nat.zero_le _⟩ ?_
  refine V.topv (show _ = Value.int (iZ (bZ false)) from by rw [decide_eq_false hbad]) ?_
  refine q_ifz_ne hc 18 dX5_least_11 (by decide) (fun c6 => ?_) (fun c6 => ?_)
  · cases c6
  · refine q_iconstN hc 1 dX5_least_14 rfl ?_
    refine q_goto hc 19 dX5_least_15 (by decide) ?_
    refine q_iconstN hc 1 dX5_least_19 rfl ?_
    refine q_callMi (As := [.int (iZ (bZ true)), .int (iZ ((1 : Nat) : Int))]) (rest := []) hc (c_X5_fails l D K u1 ad w h nc rc true 1 hq2 (by omega)) (cwV 2 hc.1.2.2.2.2 gX5_least_X5_fails rfl rfl rfl (by decide +kernel) ⟨Nat.le_of_ble_eq_true rfl, Nat.le_of_ble_eq_true rfl⟩) 66 hq2 rfl rfl rfl (by decide) dX5_least_20 ⟨Nat.zero_le _, Nat.zero_le _⟩ (fun r8 u7 hp' => ?_)
    obtain ⟨hr11, hq9, fr10⟩ := hp'
    subst hr11
    have hq12 : u7[66]? = some (ad 66, mO ad w h 1 nc rc) := hq9
    refine q_ifz_ne hc 36 dX5_least_23 (by decide) (fun c13 => ?_) (fun c13 => ?_)
    · refine q_iconstN hc 0 dX5_least_36 rfl ?_
      exact q_iretM (z := ((0 : Nat) : Int)) hc (⟨rfl, hq12, ((fr0.trans fr3 (fun _ _ => by omega)).trans fr10 (fun _ _ => by omega))⟩) hr hlk dX5_least_37
    · cases c13

set_option maxRecDepth 100000 in
set_option maxHeartbeats 4000000 in
theorem c_X5_lead_e1 (l : Launch) (D : va_G) (K : Nat → ClassId) (ws : va_W) (ad : Nat → Nat) (w h th nc rc : Nat) (num : Int) (h66 : ws[66]? = some (ad 66, mO ad w h th nc rc)) (hnc : nc ≤ 12) (hnum : -2147483648 ≤ num ∧ num < 2147483648) (hbad : ¬ (0 ≤ num ∧ num < (nc : Int))) : MMl l yX5_lead wsX5_lead ({ frames := 1, cells := 0, slots := 0, locals := 22 }) D K ws [.ref (ad 66), .int (iZ num)] (fun r u => (r = (jZ 0)) ∧ (u[66]? = some (ad 66, mO ad w h 1 nc rc)) ∧ (Fr (fun j => j = 66) ws u)) := by
  refine q_entMl RX5 [(0, .ref (ad 66)), (1, .int (iZ num))] (by decide) rfl rfl (Nat.le_of_ble_eq_true rfl) rfl ?_
  intro p e s m args below meth c hc hr hlk
  have i5 : ∀ w ∈ u_ws RX5 TX5 16, w ∈ wsX5_lead := by decide +kernel
  have f52 := hc.1.2.2.2.2 (.fieldLink RX5 52 "GlobalRoutesModel" "thrown" "I") (by decide +kernel)
  have fr0 : Fr (fun j => j = 66) ws ws := Fr.rfl
  refine q_aload_n hc 0 dX5_lead_0 rfl ?_
  refine q_iconstN hc 0 dX5_lead_1 rfl ?_
  refine q_put (ty := .int) hc 66 0 i5 tyX5 tyX5_ok nmX5 h66 rfl (by decide) f52 rfl rfl (by decide +kernel) rfl rfl (Nat.le_of_ble_eq_true rfl) rfl dX5_lead_2 (fun u1 hn' hf' => ?_)
  have hq2 : u1[66]? = some (ad 66, mO ad w h 0 nc rc) := hn'
  have fr3 := Fr.one hf'
  refine q_aload_n hc 0 dX5_lead_5 rfl ?_
  refine q_aload_n hc 0 dX5_lead_6 rfl ?_
  refine q_iload_n hc 1 dX5_lead_7 rfl ?_
  refine q_callPz (As := [.int (iZ num)]) (rest := [.ref (ad 66)]) hc (c_X5_isNet l D K u1 ad w h 0 nc rc num hq2 hnc hnum) (cwV 1 hc.1.2.2.2.2 gX5_lead_X5_isNet rfl rfl rfl (by decide +kernel) ⟨Nat.le_of_ble_eq_true rfl, Nat.le_of_ble_eq_true rfl⟩) 66 hq2 rfl rfl rfl (by simp [Value.category]) dX5_lead_8 ⟨Nat.zero_le _, Nat.zero_le _⟩ ?_
  refine V.topv (show _ = Value.int (iZ (bZ false)) from by rw [decide_eq_false hbad]) ?_
  refine q_ifz_ne hc 18 dX5_lead_11 (by decide) (fun c6 => ?_) (fun c6 => ?_)
  · cases c6
  · refine q_iconstN hc 1 dX5_lead_14 rfl ?_
    refine q_goto hc 19 dX5_lead_15 (by decide) ?_
    refine q_iconstN hc 1 dX5_lead_19 rfl ?_
    refine q_callMi (As := [.int (iZ (bZ true)), .int (iZ ((1 : Nat) : Int))]) (rest := []) hc (c_X5_fails l D K u1 ad w h nc rc true 1 hq2 (by omega)) (cwV 2 hc.1.2.2.2.2 gX5_lead_X5_fails rfl rfl rfl (by decide +kernel) ⟨Nat.le_of_ble_eq_true rfl, Nat.le_of_ble_eq_true rfl⟩) 66 hq2 rfl rfl rfl (by decide) dX5_lead_20 ⟨Nat.zero_le _, Nat.zero_le _⟩ (fun r8 u7 hp' => ?_)
    obtain ⟨hr11, hq9, fr10⟩ := hp'
    subst hr11
    have hq12 : u7[66]? = some (ad 66, mO ad w h 1 nc rc) := hq9
    refine q_ifz_ne hc 49 dX5_lead_23 (by decide) (fun c13 => ?_) (fun c13 => ?_)
    · refine q_lconst (z := 0) hc dX5_lead_49 (by decide +kernel) ?_
      exact q_lretM (z := 0) hc (⟨rfl, hq12, ((fr0.trans fr3 (fun _ _ => by omega)).trans fr10 (fun _ _ => by omega))⟩) hr hlk dX5_lead_50
    · cases c13

set_option maxRecDepth 100000 in
set_option maxHeartbeats 4000000 in
theorem c_X5_lead_e2 (l : Launch) (D : va_G) (K : Nat → ClassId) (ws : va_W) (ad : Nat → Nat) (w h th nc rc : Nat) (num : Int) (pn : Nat → Nat) (h66 : ws[66]? = some (ad 66, mO ad w h th nc rc)) (m69 : ws[69]? = some (ad 69, iN K 12 pn)) (hnc : nc ≤ 12) (hnum : -2147483648 ≤ num ∧ num < 2147483648) (hok : (0 ≤ num ∧ num < (nc : Int))) (hbad : ¬ 2 ≤ pn num.toNat) : MMl l yX5_lead wsX5_lead ({ frames := 1, cells := 0, slots := 0, locals := 22 }) D K ws [.ref (ad 66), .int (iZ num)] (fun r u => (r = (jZ 0)) ∧ (u[66]? = some (ad 66, mO ad w h 2 nc rc)) ∧ (Fr (fun j => j = 66) ws u)) := by
  refine q_entMl RX5 [(0, .ref (ad 66)), (1, .int (iZ num))] (by decide) rfl rfl (Nat.le_of_ble_eq_true rfl) rfl ?_
  intro p e s m args below meth c hc hr hlk
  have i5 : ∀ w ∈ u_ws RX5 TX5 16, w ∈ wsX5_lead := by decide +kernel
  have f52 := hc.1.2.2.2.2 (.fieldLink RX5 52 "GlobalRoutesModel" "thrown" "I") (by decide +kernel)
  have f16 := hc.1.2.2.2.2 (.fieldLink RX5 16 "GlobalRoutesModel" "pins" "[I") (by decide +kernel)
  have fr0 : Fr (fun j => j = 66) ws ws := Fr.rfl
  refine q_aload_n hc 0 dX5_lead_0 rfl ?_
  refine q_iconstN hc 0 dX5_lead_1 rfl ?_
  refine q_put (ty := .int) hc 66 0 i5 tyX5 tyX5_ok nmX5 h66 rfl (by decide) f52 rfl rfl (by decide +kernel) rfl rfl (Nat.le_of_ble_eq_true rfl) rfl dX5_lead_2 (fun u1 hn' hf' => ?_)
  have hq2 : u1[66]? = some (ad 66, mO ad w h 0 nc rc) := hn'
  have hq3 := (hf' 69 (by omega)).trans m69
  have fr4 := Fr.one hf'
  refine q_aload_n hc 0 dX5_lead_5 rfl ?_
  refine q_aload_n hc 0 dX5_lead_6 rfl ?_
  refine q_iload_n hc 1 dX5_lead_7 rfl ?_
  refine q_callPz (As := [.int (iZ num)]) (rest := [.ref (ad 66)]) hc (c_X5_isNet l D K u1 ad w h 0 nc rc num hq2 hnc hnum) (cwV 1 hc.1.2.2.2.2 gX5_lead_X5_isNet rfl rfl rfl (by decide +kernel) ⟨Nat.le_of_ble_eq_true rfl, Nat.le_of_ble_eq_true rfl⟩) 66 hq2 rfl rfl rfl (by simp [Value.category]) dX5_lead_8 ⟨Nat.zero_le _, Nat.zero_le _⟩ ?_
  refine V.topv (show _ = Value.int (iZ (bZ true)) from by rw [decide_eq_true hok]) ?_
  refine q_ifz_ne hc 18 dX5_lead_11 (by decide) (fun c7 => ?_) (fun c7 => ?_)
  · refine q_iconstN hc 0 dX5_lead_18 rfl ?_
    refine q_iconstN hc 1 dX5_lead_19 rfl ?_
    refine q_callMi (As := [.int (iZ (bZ false)), .int (iZ ((1 : Nat) : Int))]) (rest := []) hc (c_X5_fails l D K u1 ad w h nc rc false 1 hq2 (by omega)) (cwV 2 hc.1.2.2.2.2 gX5_lead_X5_fails rfl rfl rfl (by decide +kernel) ⟨Nat.le_of_ble_eq_true rfl, Nat.le_of_ble_eq_true rfl⟩) 66 hq2 rfl rfl rfl (by decide) dX5_lead_20 ⟨Nat.zero_le _, Nat.zero_le _⟩ (fun r9 u8 hp' => ?_)
    obtain ⟨hr12, hq10, fr11⟩ := hp'
    have hq13 := (fr11.at 69 (by omega)).trans hq3
    subst hr12
    have hq14 : u8[66]? = some (ad 66, mO ad w h 0 nc rc) := hq10
    refine q_ifz_ne hc 49 dX5_lead_23 (by decide) (fun c15 => ?_) (fun c15 => ?_)
    · cases c15
    · refine q_aload_n hc 0 dX5_lead_26 rfl ?_
      refine q_aload_n hc 0 dX5_lead_27 rfl ?_
      refine q_get hc 66 6 i5 hq14 rfl (by decide) f16 rfl rfl dX5_lead_28 ?_
      refine q_iload_n hc 1 dX5_lead_31 rfl ?_
      refine V.topi (show _ = ((num.toNat : Nat) : Int) from by omega) ?_
      refine q_ialdN (j := num.toNat) hc 69 hq13 rfl (by omega) (by omega) dX5_lead_32 ?_
      refine q_iconstN hc 2 dX5_lead_33 rfl ?_
      refine q_icmpN_ge hc 41 dX5_lead_34 (by decide) (by omega) (by omega) (fun c16 => ?_) (fun c16 => ?_)
      · exact absurd c16 (by omega)
      · refine q_iconstN hc 1 dX5_lead_37 rfl ?_
        refine q_goto hc 42 dX5_lead_38 (by decide) ?_
        refine q_iconstN hc 2 dX5_lead_42 rfl ?_
        refine q_callMi (As := [.int (iZ (bZ true)), .int (iZ ((2 : Nat) : Int))]) (rest := []) hc (c_X5_fails l D K u8 ad w h nc rc true 2 hq14 (by omega)) (cwV 2 hc.1.2.2.2.2 gX5_lead_X5_fails rfl rfl rfl (by decide +kernel) ⟨Nat.le_of_ble_eq_true rfl, Nat.le_of_ble_eq_true rfl⟩) 66 hq14 rfl rfl rfl (by decide) dX5_lead_43 ⟨Nat.zero_le _, Nat.zero_le _⟩ (fun r18 u17 hp' => ?_)
        obtain ⟨hr21, hq19, fr20⟩ := hp'
        have hq22 := (fr20.at 69 (by omega)).trans hq13
        subst hr21
        have hq23 : u17[66]? = some (ad 66, mO ad w h 2 nc rc) := hq19
        refine q_ifz_eq hc 51 dX5_lead_46 (by decide) (fun c24 => ?_) (fun c24 => ?_)
        · cases c24
        · refine q_lconst (z := 0) hc dX5_lead_49 (by decide +kernel) ?_
          exact q_lretM (z := 0) hc (⟨rfl, hq23, (((fr0.trans fr4 (fun _ _ => by omega)).trans fr11 (fun _ _ => by omega)).trans fr20 (fun _ _ => by omega))⟩) hr hlk dX5_lead_50
  · cases c7

set_option maxRecDepth 100000 in
set_option maxHeartbeats 4000000 in
theorem c_X5_has (l : Launch) (D : va_G) (K : Nat → ClassId) (ws : va_W) (ad : Nat → Nat) (w h n th nc rc : Nat) (num : Int) (x y : Int) (d : Bool) (ro : Nat → Nat → Bool) (h66 : ws[66]? = some (ad 66, mO ad w h th nc rc)) (m72 : ws[72]? = some (ad 72, zA K 1536 (mRo n ro))) (hnc : nc ≤ 12) (hnum : -2147483648 ≤ num ∧ num < 2147483648) (hx : -2147483648 ≤ x ∧ x < 2147483648) (hy : -2147483648 ≤ y ∧ y < 2147483648) (hn : n ≤ 64) (hw2 : 2 ≤ w ∧ w ≤ 8 ∧ 2 ≤ h ∧ h ≤ 8) (hxy : ∀ x y, x < w → y < h → x + w * y < n) (hokn : (0 ≤ num ∧ num < (nc : Int))) (hok : hB w h x y d = true) : MMi l yX5_has wsX5_has ({ frames := 2, cells := 0, slots := 0, locals := 45 }) D K ws [.ref (ad 66), .int (iZ num), .int (iZ x), .int (iZ y), .int (iZ (bZ d))] (fun r u => (r = (iZ (bZ (ro num.toNat (bIx w x y d))))) ∧ (u[66]? = some (ad 66, mO ad w h 0 nc rc)) ∧ (Fr (fun j => j = 66) ws u)) := by
  refine q_entMi RX5 [(0, .ref (ad 66)), (1, .int (iZ num)), (2, .int (iZ x)), (3, .int (iZ y)), (4, .int (iZ (bZ d)))] (by decide) rfl rfl (Nat.le_of_ble_eq_true rfl) rfl ?_
  intro p e s m args below meth c hc hr hlk
  have i5 : ∀ w ∈ u_ws RX5 TX5 16, w ∈ wsX5_has := by decide +kernel
  have f52 := hc.1.2.2.2.2 (.fieldLink RX5 52 "GlobalRoutesModel" "thrown" "I") (by decide +kernel)
  have f26 := hc.1.2.2.2.2 (.fieldLink RX5 26 "GlobalRoutesModel" "routes" "[Z") (by decide +kernel)
  have fr0 : Fr (fun j => j = 66) ws ws := Fr.rfl
  refine q_aload_n hc 0 dX5_has_0 rfl ?_
  refine q_iconstN hc 0 dX5_has_1 rfl ?_
  refine q_put (ty := .int) hc 66 0 i5 tyX5 tyX5_ok nmX5 h66 rfl (by decide) f52 rfl rfl (by decide +kernel) rfl rfl (Nat.le_of_ble_eq_true rfl) rfl dX5_has_2 (fun u1 hn' hf' => ?_)
  have hq2 : u1[66]? = some (ad 66, mO ad w h 0 nc rc) := hn'
  have hq3 := (hf' 72 (by omega)).trans m72
  have fr4 := Fr.one hf'
  refine q_aload_n hc 0 dX5_has_5 rfl ?_
  refine q_aload_n hc 0 dX5_has_6 rfl ?_
  refine q_iload_n hc 1 dX5_has_7 rfl ?_
  refine q_callPz (As := [.int (iZ num)]) (rest := [.ref (ad 66)]) hc (c_X5_isNet l D K u1 ad w h 0 nc rc num hq2 hnc hnum) (cwV 1 hc.1.2.2.2.2 gX5_has_X5_isNet rfl rfl rfl (by decide +kernel) ⟨Nat.le_of_ble_eq_true rfl, Nat.le_of_ble_eq_true rfl⟩) 66 hq2 rfl rfl rfl (by simp [Value.category]) dX5_has_8 ⟨Nat.zero_le _, Nat.zero_le _⟩ ?_
  refine V.topv (show _ = Value.int (iZ (bZ true)) from by rw [decide_eq_true hokn]) ?_
  refine q_ifz_eq hc 25 dX5_has_11 (by decide) (fun c7 => ?_) (fun c7 => ?_)
  · cases c7
  · refine q_aload_n hc 0 dX5_has_14 rfl ?_
    refine q_iload_n hc 2 dX5_has_15 rfl ?_
    refine q_iload_n hc 3 dX5_has_16 rfl ?_
    refine q_iload hc 4 dX5_has_17 rfl ?_
    refine q_callPz (As := [.int (iZ x), .int (iZ y), .int (iZ (bZ d))]) (rest := [.ref (ad 66)]) hc (c_X5_isBorder l D K u1 ad w h 0 nc rc x y d hq2 hw2 hx hy) (cwV 3 hc.1.2.2.2.2 gX5_has_X5_isBorder rfl rfl rfl (by decide +kernel) ⟨Nat.le_of_ble_eq_true rfl, Nat.le_of_ble_eq_true rfl⟩) 66 hq2 rfl rfl rfl (by simp [Value.category]) dX5_has_19 ⟨Nat.zero_le _, Nat.zero_le _⟩ ?_
    refine V.topv (show _ = Value.int (iZ (bZ true)) from by rw [hok]) ?_
    refine q_ifz_ne hc 29 dX5_has_22 (by decide) (fun c10 => ?_) (fun c10 => ?_)
    · refine q_iconstN hc 0 dX5_has_29 rfl ?_
      refine q_iconstN hc 1 dX5_has_30 rfl ?_
      refine q_callMi (As := [.int (iZ (bZ false)), .int (iZ ((1 : Nat) : Int))]) (rest := []) hc (c_X5_fails l D K u1 ad w h nc rc false 1 hq2 (by omega)) (cwV 2 hc.1.2.2.2.2 gX5_has_X5_fails rfl rfl rfl (by decide +kernel) ⟨Nat.le_of_ble_eq_true rfl, Nat.le_of_ble_eq_true rfl⟩) 66 hq2 rfl rfl rfl (by decide) dX5_has_31 ⟨Nat.zero_le _, Nat.zero_le _⟩ (fun r12 u11 hp' => ?_)
      obtain ⟨hr15, hq13, fr14⟩ := hp'
      have hq16 := (fr14.at 72 (by omega)).trans hq3
      subst hr15
      have hq17 : u11[66]? = some (ad 66, mO ad w h 0 nc rc) := hq13
      refine q_ifz_eq hc 39 dX5_has_34 (by decide) (fun c18 => ?_) (fun c18 => ?_)
      · have hy9 := hB_yes hok; have hq9 := hxy x.toNat y.toNat (by omega) (by omega); have hd9 := bN_le d
        refine q_aload_n hc 0 dX5_has_39 rfl ?_
        refine q_get hc 66 9 i5 hq17 rfl (by decide) f26 rfl rfl dX5_has_40 ?_
        refine q_sipushN hc 128 dX5_has_43 (by decide +kernel) ?_
        refine q_iload_n hc 1 dX5_has_46 rfl ?_
        refine V.topi (show _ = ((num.toNat : Nat) : Int) from by omega) ?_
        refine q_imulN hc dX5_has_47 ?_
        refine q_aload_n hc 0 dX5_has_48 rfl ?_
        refine q_iload_n hc 2 dX5_has_49 rfl ?_
        refine V.topi (show _ = ((x.toNat : Nat) : Int) from by omega) ?_
        refine q_iload_n hc 3 dX5_has_50 rfl ?_
        refine V.topi (show _ = ((y.toNat : Nat) : Int) from by omega) ?_
        refine q_iload hc 4 dX5_has_51 rfl ?_
        refine q_callPn (As := [.int (iZ ((x.toNat : Nat) : Int)), .int (iZ ((y.toNat : Nat) : Int)), .int (iZ (bZ d))]) (rest := [.int (iZ ((128 * num.toNat : Nat) : Int)), .ref (ad 72)]) hc (c_X5_numberOf l D K u11 ad w h 0 nc rc x.toNat y.toNat d hq17 ) (cwV 3 hc.1.2.2.2.2 gX5_has_X5_numberOf rfl rfl rfl (by decide +kernel) ⟨Nat.le_of_ble_eq_true rfl, Nat.le_of_ble_eq_true rfl⟩) 66 hq17 rfl rfl rfl (by simp [Value.category]) dX5_has_53 ⟨Nat.zero_le _, Nat.zero_le _⟩ ?_
        refine q_iaddN hc dX5_has_56 ?_
        refine q_zald (j := 128 * num.toNat + (x.toNat + w * y.toNat + 64 * bN d)) hc 72 hq16 rfl (by omega) (by omega) dX5_has_57 ?_
        refine V.topv (show _ = Value.int (iZ (bZ (ro num.toNat (bIx w x y d)))) from by rw [show mRo n ro (128 * num.toNat + (x.toNat + w * y.toNat + 64 * bN d)) = ro num.toNat (bIx w x y d) from (mRo_at (by omega)).trans (mR_at d hq9 hn)]) ?_
        exact q_zretM (b := (ro num.toNat (bIx w x y d))) hc (⟨rfl, hq17, ((fr0.trans fr4 (fun _ _ => by omega)).trans fr14 (fun _ _ => by omega))⟩) hr hlk dX5_has_58
      · cases c18
    · cases c10

set_option maxRecDepth 100000 in
set_option maxHeartbeats 4000000 in
theorem c_X5_has_e1 (l : Launch) (D : va_G) (K : Nat → ClassId) (ws : va_W) (ad : Nat → Nat) (w h th nc rc : Nat) (num : Int) (x y : Int) (d : Bool) (h66 : ws[66]? = some (ad 66, mO ad w h th nc rc)) (hnc : nc ≤ 12) (hnum : -2147483648 ≤ num ∧ num < 2147483648) (hx : -2147483648 ≤ x ∧ x < 2147483648) (hy : -2147483648 ≤ y ∧ y < 2147483648) (hw2 : 2 ≤ w ∧ w ≤ 8 ∧ 2 ≤ h ∧ h ≤ 8) (hbad : ¬ (0 ≤ num ∧ num < (nc : Int)) ∨ hB w h x y d = false) : MMi l yX5_has wsX5_has ({ frames := 2, cells := 0, slots := 0, locals := 45 }) D K ws [.ref (ad 66), .int (iZ num), .int (iZ x), .int (iZ y), .int (iZ (bZ d))] (fun r u => (r = (iZ (bZ false))) ∧ (u[66]? = some (ad 66, mO ad w h 1 nc rc)) ∧ (Fr (fun j => j = 66) ws u)) := by
  refine q_entMi RX5 [(0, .ref (ad 66)), (1, .int (iZ num)), (2, .int (iZ x)), (3, .int (iZ y)), (4, .int (iZ (bZ d)))] (by decide) rfl rfl (Nat.le_of_ble_eq_true rfl) rfl ?_
  intro p e s m args below meth c hc hr hlk
  have i5 : ∀ w ∈ u_ws RX5 TX5 16, w ∈ wsX5_has := by decide +kernel
  have f52 := hc.1.2.2.2.2 (.fieldLink RX5 52 "GlobalRoutesModel" "thrown" "I") (by decide +kernel)
  have fr0 : Fr (fun j => j = 66) ws ws := Fr.rfl
  refine q_aload_n hc 0 dX5_has_0 rfl ?_
  refine q_iconstN hc 0 dX5_has_1 rfl ?_
  refine q_put (ty := .int) hc 66 0 i5 tyX5 tyX5_ok nmX5 h66 rfl (by decide) f52 rfl rfl (by decide +kernel) rfl rfl (Nat.le_of_ble_eq_true rfl) rfl dX5_has_2 (fun u1 hn' hf' => ?_)
  have hq2 : u1[66]? = some (ad 66, mO ad w h 0 nc rc) := hn'
  have fr3 := Fr.one hf'
  refine q_aload_n hc 0 dX5_has_5 rfl ?_
  refine q_aload_n hc 0 dX5_has_6 rfl ?_
  refine q_iload_n hc 1 dX5_has_7 rfl ?_
  refine q_callPz (As := [.int (iZ num)]) (rest := [.ref (ad 66)]) hc (c_X5_isNet l D K u1 ad w h 0 nc rc num hq2 hnc hnum) (cwV 1 hc.1.2.2.2.2 gX5_has_X5_isNet rfl rfl rfl (by decide +kernel) ⟨Nat.le_of_ble_eq_true rfl, Nat.le_of_ble_eq_true rfl⟩) 66 hq2 rfl rfl rfl (by simp [Value.category]) dX5_has_8 ⟨Nat.zero_le _, Nat.zero_le _⟩ ?_
  refine q_ifz_eq hc 25 dX5_has_11 (by decide) (fun c6 => ?_) (fun c6 => ?_)
  · refine q_iconstN hc 1 dX5_has_25 rfl ?_
    refine q_goto hc 30 dX5_has_26 (by decide) ?_
    refine q_iconstN hc 1 dX5_has_30 rfl ?_
    refine q_callMi (As := [.int (iZ (bZ true)), .int (iZ ((1 : Nat) : Int))]) (rest := []) hc (c_X5_fails l D K u1 ad w h nc rc true 1 hq2 (by omega)) (cwV 2 hc.1.2.2.2.2 gX5_has_X5_fails rfl rfl rfl (by decide +kernel) ⟨Nat.le_of_ble_eq_true rfl, Nat.le_of_ble_eq_true rfl⟩) 66 hq2 rfl rfl rfl (by decide) dX5_has_31 ⟨Nat.zero_le _, Nat.zero_le _⟩ (fun r8 u7 hp' => ?_)
    obtain ⟨hr11, hq9, fr10⟩ := hp'
    subst hr11
    have hq12 : u7[66]? = some (ad 66, mO ad w h 1 nc rc) := hq9
    refine q_ifz_eq hc 39 dX5_has_34 (by decide) (fun c13 => ?_) (fun c13 => ?_)
    · cases c13
    · refine q_iconstN hc 0 dX5_has_37 rfl ?_
      exact q_zretM (b := false) hc (⟨rfl, hq12, ((fr0.trans fr3 (fun _ _ => by omega)).trans fr10 (fun _ _ => by omega))⟩) hr hlk dX5_has_38
  · refine q_aload_n hc 0 dX5_has_14 rfl ?_
    refine q_iload_n hc 2 dX5_has_15 rfl ?_
    refine q_iload_n hc 3 dX5_has_16 rfl ?_
    refine q_iload hc 4 dX5_has_17 rfl ?_
    refine q_callPz (As := [.int (iZ x), .int (iZ y), .int (iZ (bZ d))]) (rest := [.ref (ad 66)]) hc (c_X5_isBorder l D K u1 ad w h 0 nc rc x y d hq2 hw2 hx hy) (cwV 3 hc.1.2.2.2.2 gX5_has_X5_isBorder rfl rfl rfl (by decide +kernel) ⟨Nat.le_of_ble_eq_true rfl, Nat.le_of_ble_eq_true rfl⟩) 66 hq2 rfl rfl rfl (by simp [Value.category]) dX5_has_19 ⟨Nat.zero_le _, Nat.zero_le _⟩ ?_
    refine V.topv (show _ = Value.int (iZ (bZ false)) from by rw [hbad.resolve_left (fun h9 => h9 (of_decide_eq_true c6))]) ?_
    refine q_ifz_ne hc 29 dX5_has_22 (by decide) (fun c16 => ?_) (fun c16 => ?_)
    · cases c16
    · refine q_iconstN hc 1 dX5_has_25 rfl ?_
      refine q_goto hc 30 dX5_has_26 (by decide) ?_
      refine q_iconstN hc 1 dX5_has_30 rfl ?_
      refine q_callMi (As := [.int (iZ (bZ true)), .int (iZ ((1 : Nat) : Int))]) (rest := []) hc (c_X5_fails l D K u1 ad w h nc rc true 1 hq2 (by omega)) (cwV 2 hc.1.2.2.2.2 gX5_has_X5_fails rfl rfl rfl (by decide +kernel) ⟨Nat.le_of_ble_eq_true rfl, Nat.le_of_ble_eq_true rfl⟩) 66 hq2 rfl rfl rfl (by decide) dX5_has_31 ⟨Nat.zero_le _, Nat.zero_le _⟩ (fun r18 u17 hp' => ?_)
      obtain ⟨hr21, hq19, fr20⟩ := hp'
      subst hr21
      have hq22 : u17[66]? = some (ad 66, mO ad w h 1 nc rc) := hq19
      refine q_ifz_eq hc 39 dX5_has_34 (by decide) (fun c23 => ?_) (fun c23 => ?_)
      · cases c23
      · refine q_iconstN hc 0 dX5_has_37 rfl ?_
        exact q_zretM (b := false) hc (⟨rfl, hq22, ((fr0.trans fr3 (fun _ _ => by omega)).trans fr20 (fun _ _ => by omega))⟩) hr hlk dX5_has_38

set_option maxRecDepth 100000 in
set_option maxHeartbeats 4000000 in
theorem c_X5_border (l : Launch) (D : va_G) (K : Nat → ClassId) (ws : va_W) (ad : Nat → Nat) (w h n th nc rc : Nat) (x y : Int) (d : Bool) (what : Int) (c0 : Nat) (cap us hi : Nat → Nat) (ro : Nat → Nat → Bool) (h66 : ws[66]? = some (ad 66, mO ad w h th nc rc)) (m67 : ws[67]? = some (ad 67, iN K 128 (mA n c0 cap))) (m68 : ws[68]? = some (ad 68, iN K 128 (mA n 0 hi))) (m72 : ws[72]? = some (ad 72, zA K 1536 (mRo n ro))) (hx : -2147483648 ≤ x ∧ x < 2147483648) (hy : -2147483648 ≤ y ∧ y < 2147483648) (hwhat : -2147483648 ≤ what ∧ what < 2147483648) (hn : n ≤ 64) (hw2 : 2 ≤ w ∧ w ≤ 8 ∧ 2 ≤ h ∧ h ≤ 8) (hnc : nc ≤ 12) (hxy : ∀ x y, x < w → y < h → x + w * y < n) (hUC : UC n nc us ro) (hc0 : c0 ≤ 20) (hcap : ∀ k, k < 2 * n → cap k ≤ 20) (hus : ∀ k, k < 2 * n → us k ≤ 12) (hok : hB w h x y d = true) (hwt : 0 ≤ what ∧ what < 4) : MMi l yX5_border wsX5_border ({ frames := 2, cells := 0, slots := 0, locals := 45 }) D K ws [.ref (ad 66), .int (iZ x), .int (iZ y), .int (iZ (bZ d)), .int (iZ what)] (fun r u => (r = (iZ ((bdV cap us hi (bIx w x y d) what.toNat : Nat) : Int))) ∧ (u[66]? = some (ad 66, mO ad w h 0 nc rc)) ∧ (Fr (fun j => j = 66) ws u)) := by
  refine q_entMi RX5 [(0, .ref (ad 66)), (1, .int (iZ x)), (2, .int (iZ y)), (3, .int (iZ (bZ d))), (4, .int (iZ what))] (by decide) rfl rfl (Nat.le_of_ble_eq_true rfl) rfl ?_
  intro p e s m args below meth c hc hr hlk
  have i5 : ∀ w ∈ u_ws RX5 TX5 16, w ∈ wsX5_border := by decide +kernel
  have f52 := hc.1.2.2.2.2 (.fieldLink RX5 52 "GlobalRoutesModel" "thrown" "I") (by decide +kernel)
  have f13 := hc.1.2.2.2.2 (.fieldLink RX5 13 "GlobalRoutesModel" "histories" "[I") (by decide +kernel)
  have f7 := hc.1.2.2.2.2 (.fieldLink RX5 7 "GlobalRoutesModel" "capacities" "[I") (by decide +kernel)
  have fr0 : Fr (fun j => j = 66) ws ws := Fr.rfl
  refine q_aload_n hc 0 dX5_border_0 rfl ?_
  refine q_iconstN hc 0 dX5_border_1 rfl ?_
  refine q_put (ty := .int) hc 66 0 i5 tyX5 tyX5_ok nmX5 h66 rfl (by decide) f52 rfl rfl (by decide +kernel) rfl rfl (Nat.le_of_ble_eq_true rfl) rfl dX5_border_2 (fun u1 hn' hf' => ?_)
  have hq2 : u1[66]? = some (ad 66, mO ad w h 0 nc rc) := hn'
  have hq3 := (hf' 67 (by omega)).trans m67
  have hq4 := (hf' 68 (by omega)).trans m68
  have hq5 := (hf' 72 (by omega)).trans m72
  have fr6 := Fr.one hf'
  refine q_aload_n hc 0 dX5_border_5 rfl ?_
  refine q_aload_n hc 0 dX5_border_6 rfl ?_
  refine q_iload_n hc 1 dX5_border_7 rfl ?_
  refine q_iload_n hc 2 dX5_border_8 rfl ?_
  refine q_iload_n hc 3 dX5_border_9 rfl ?_
  refine q_callPz (As := [.int (iZ x), .int (iZ y), .int (iZ (bZ d))]) (rest := [.ref (ad 66)]) hc (c_X5_isBorder l D K u1 ad w h 0 nc rc x y d hq2 hw2 hx hy) (cwV 3 hc.1.2.2.2.2 gX5_border_X5_isBorder rfl rfl rfl (by decide +kernel) ⟨Nat.le_of_ble_eq_true rfl, Nat.le_of_ble_eq_true rfl⟩) 66 hq2 rfl rfl rfl (by simp [Value.category]) dX5_border_10 ⟨Nat.zero_le _, Nat.zero_le _⟩ ?_
  refine V.topv (show _ = Value.int (iZ (bZ true)) from by rw [hok]) ?_
  refine q_ifz_ne hc 20 dX5_border_13 (by decide) (fun c9 => ?_) (fun c9 => ?_)
  · refine q_iconstN hc 0 dX5_border_20 rfl ?_
    refine q_iconstN hc 1 dX5_border_21 rfl ?_
    refine q_callMi (As := [.int (iZ (bZ false)), .int (iZ ((1 : Nat) : Int))]) (rest := []) hc (c_X5_fails l D K u1 ad w h nc rc false 1 hq2 (by omega)) (cwV 2 hc.1.2.2.2.2 gX5_border_X5_fails rfl rfl rfl (by decide +kernel) ⟨Nat.le_of_ble_eq_true rfl, Nat.le_of_ble_eq_true rfl⟩) 66 hq2 rfl rfl rfl (by decide) dX5_border_22 ⟨Nat.zero_le _, Nat.zero_le _⟩ (fun r11 u10 hp' => ?_)
    obtain ⟨hr14, hq12, fr13⟩ := hp'
    have hq15 := (fr13.at 67 (by omega)).trans hq3
    have hq16 := (fr13.at 68 (by omega)).trans hq4
    have hq17 := (fr13.at 72 (by omega)).trans hq5
    subst hr14
    have hq18 : u10[66]? = some (ad 66, mO ad w h 0 nc rc) := hq12
    refine q_ifz_ne hc 52 dX5_border_25 (by decide) (fun c19 => ?_) (fun c19 => ?_)
    · cases c19
    · refine q_aload_n hc 0 dX5_border_28 rfl ?_
      refine q_iload hc 4 dX5_border_29 rfl ?_
      refine q_if_lt hc 40 dX5_border_31 (by decide) (by omega) (fun c20 => ?_) (fun c20 => ?_)
      · exact absurd c20 (by omega)
      · refine q_iload hc 4 dX5_border_34 rfl ?_
        refine q_iconstN hc 3 dX5_border_36 rfl ?_
        refine q_icmp_le hc 44 dX5_border_37 (by decide) (by omega) (by omega) (fun c21 => ?_) (fun c21 => ?_)
        · refine q_iconstN hc 0 dX5_border_44 rfl ?_
          refine q_iconstN hc 2 dX5_border_45 rfl ?_
          refine q_callMi (As := [.int (iZ (bZ false)), .int (iZ ((2 : Nat) : Int))]) (rest := []) hc (c_X5_fails l D K u10 ad w h nc rc false 2 hq18 (by omega)) (cwV 2 hc.1.2.2.2.2 gX5_border_X5_fails rfl rfl rfl (by decide +kernel) ⟨Nat.le_of_ble_eq_true rfl, Nat.le_of_ble_eq_true rfl⟩) 66 hq18 rfl rfl rfl (by decide) dX5_border_46 ⟨Nat.zero_le _, Nat.zero_le _⟩ (fun r23 u22 hp' => ?_)
          obtain ⟨hr26, hq24, fr25⟩ := hp'
          have hq27 := (fr25.at 67 (by omega)).trans hq15
          have hq28 := (fr25.at 68 (by omega)).trans hq16
          have hq29 := (fr25.at 72 (by omega)).trans hq17
          subst hr26
          have hq30 : u22[66]? = some (ad 66, mO ad w h 0 nc rc) := hq24
          refine q_ifz_eq hc 54 dX5_border_49 (by decide) (fun c31 => ?_) (fun c31 => ?_)
          · have hy9 := hB_yes hok; have hq9 := hxy x.toNat y.toNat (by omega) (by omega); have hd9 := bN_le d
            refine q_aload_n hc 0 dX5_border_54 rfl ?_
            refine q_iload_n hc 1 dX5_border_55 rfl ?_
            refine V.topi (show _ = ((x.toNat : Nat) : Int) from by omega) ?_
            refine q_iload_n hc 2 dX5_border_56 rfl ?_
            refine V.topi (show _ = ((y.toNat : Nat) : Int) from by omega) ?_
            refine q_iload_n hc 3 dX5_border_57 rfl ?_
            refine q_callPn (As := [.int (iZ ((x.toNat : Nat) : Int)), .int (iZ ((y.toNat : Nat) : Int)), .int (iZ (bZ d))]) (rest := []) hc (c_X5_numberOf l D K u22 ad w h 0 nc rc x.toNat y.toNat d hq30 ) (cwV 3 hc.1.2.2.2.2 gX5_border_X5_numberOf rfl rfl rfl (by decide +kernel) ⟨Nat.le_of_ble_eq_true rfl, Nat.le_of_ble_eq_true rfl⟩) 66 hq30 rfl rfl rfl (by decide) dX5_border_58 ⟨Nat.zero_le _, Nat.zero_le _⟩ ?_
            refine q_istore hc [(5, .int (iZ ((x.toNat + w * y.toNat + 64 * bN d : Nat) : Int))), (0, .ref (ad 66)), (1, .int (iZ x)), (2, .int (iZ y)), (3, .int (iZ (bZ d))), (4, .int (iZ what))] dX5_border_61 (by decide) rfl ?_
            refine q_iload hc 5 dX5_border_63 rfl ?_
            refine q_if_ne hc 77 dX5_border_65 (by decide) (by omega) (fun c34 => ?_) (fun c34 => ?_)
            · refine q_iload hc 5 dX5_border_77 rfl ?_
              refine q_iconstN hc 1 dX5_border_79 rfl ?_
              refine q_icmp_ne hc 93 dX5_border_80 (by decide) (by omega) (by omega) (fun c35 => ?_) (fun c35 => ?_)
              · refine q_iload hc 5 dX5_border_93 rfl ?_
                refine q_iconstN hc 2 dX5_border_95 rfl ?_
                refine q_icmp_ne hc 109 dX5_border_96 (by decide) (by omega) (by omega) (fun c36 => ?_) (fun c36 => ?_)
                · refine q_aload_n hc 1 dX5_border_109 rfl ?_
                  refine q_iload hc 0 dX5_border_110 rfl ?_
                  refine q_callPn (As := [.int (iZ ((x.toNat + w * y.toNat + 64 * bN d : Nat) : Int))]) (rest := []) hc (c_X5_over l D K u22 ad w h n 0 nc rc (x.toNat + w * y.toNat + 64 * bN d) c0 cap _ ro hq30 hq27 hq29 (by omega) hnc hUC hc0 hcap hus) (cwV 1 hc.1.2.2.2.2 gX5_border_X5_over rfl rfl rfl (by decide +kernel) ⟨Nat.le_of_ble_eq_true rfl, Nat.le_of_ble_eq_true rfl⟩) 66 hq30 rfl rfl rfl (by decide) dX5_border_112 ⟨Nat.zero_le _, Nat.zero_le _⟩ ?_
                  exact q_iretM (z := ((mA n 0 (fun k => us k - cap k) (x.toNat + w * y.toNat + 64 * bN d) : Nat) : Int)) hc (⟨congrArg (fun a : Nat => iZ (a : Int)) (show _ = bdV cap us hi (bIx w x y d) what.toNat from by rw [show what.toNat = 3 by omega]; exact (mA_at d hq9 hn)), hq30, (((fr0.trans fr6 (fun _ _ => by omega)).trans fr13 (fun _ _ => by omega)).trans fr25 (fun _ _ => by omega))⟩) hr hlk dX5_border_115
                · refine q_aload_n hc 1 dX5_border_99 rfl ?_
                  refine q_get hc 66 4 i5 hq30 rfl (by decide) f13 rfl rfl dX5_border_100 ?_
                  refine q_iload hc 0 dX5_border_103 rfl ?_
                  refine q_ialdN (j := x.toNat + w * y.toNat + 64 * bN d) hc 68 hq28 rfl (by omega) (by omega) dX5_border_105 ?_
                  refine q_goto hc 115 dX5_border_106 (by decide) ?_
                  exact q_iretM (z := (((mA n 0 hi) (x.toNat + w * y.toNat + 64 * bN d) : Nat) : Int)) hc (⟨congrArg (fun a : Nat => iZ (a : Int)) (show _ = bdV cap us hi (bIx w x y d) what.toNat from by rw [show what.toNat = 2 by omega]; exact (mA_at d hq9 hn)), hq30, (((fr0.trans fr6 (fun _ _ => by omega)).trans fr13 (fun _ _ => by omega)).trans fr25 (fun _ _ => by omega))⟩) hr hlk dX5_border_115
              · refine q_aload_n hc 1 dX5_border_83 rfl ?_
                refine q_get hc 66 3 i5 hq30 rfl (by decide) f7 rfl rfl dX5_border_84 ?_
                refine q_iload hc 0 dX5_border_87 rfl ?_
                refine q_ialdN (j := x.toNat + w * y.toNat + 64 * bN d) hc 67 hq27 rfl (by omega) (by omega) dX5_border_89 ?_
                refine q_goto hc 115 dX5_border_90 (by decide) ?_
                exact q_iretM (z := (((mA n c0 cap) (x.toNat + w * y.toNat + 64 * bN d) : Nat) : Int)) hc (⟨congrArg (fun a : Nat => iZ (a : Int)) (show _ = bdV cap us hi (bIx w x y d) what.toNat from by rw [show what.toNat = 1 by omega]; exact (mA_at d hq9 hn)), hq30, (((fr0.trans fr6 (fun _ _ => by omega)).trans fr13 (fun _ _ => by omega)).trans fr25 (fun _ _ => by omega))⟩) hr hlk dX5_border_115
            · refine q_aload_n hc 1 dX5_border_68 rfl ?_
              refine q_iload hc 0 dX5_border_69 rfl ?_
              refine q_callPn (As := [.int (iZ ((x.toNat + w * y.toNat + 64 * bN d : Nat) : Int))]) (rest := []) hc (c_X5_use l D K u22 ad w h n 0 nc rc (x.toNat + w * y.toNat + 64 * bN d) _ ro hq30 hq29 (by omega) hnc hUC) (cwV 1 hc.1.2.2.2.2 gX5_border_X5_use rfl rfl rfl (by decide +kernel) ⟨Nat.le_of_ble_eq_true rfl, Nat.le_of_ble_eq_true rfl⟩) 66 hq30 rfl rfl rfl (by decide) dX5_border_71 ⟨Nat.zero_le _, Nat.zero_le _⟩ ?_
              refine q_goto hc 115 dX5_border_74 (by decide) ?_
              exact q_iretM (z := ((mA n 0 us (x.toNat + w * y.toNat + 64 * bN d) : Nat) : Int)) hc (⟨congrArg (fun a : Nat => iZ (a : Int)) (show _ = bdV cap us hi (bIx w x y d) what.toNat from by rw [show what.toNat = 0 by omega]; exact (mA_at d hq9 hn)), hq30, (((fr0.trans fr6 (fun _ _ => by omega)).trans fr13 (fun _ _ => by omega)).trans fr25 (fun _ _ => by omega))⟩) hr hlk dX5_border_115
          · cases c31
        · exact absurd c21 (by omega)
  · cases c9

set_option maxRecDepth 100000 in
set_option maxHeartbeats 4000000 in
theorem c_X5_border_e1 (l : Launch) (D : va_G) (K : Nat → ClassId) (ws : va_W) (ad : Nat → Nat) (w h th nc rc : Nat) (x y : Int) (d : Bool) (what : Int) (h66 : ws[66]? = some (ad 66, mO ad w h th nc rc)) (hw2 : 2 ≤ w ∧ w ≤ 8 ∧ 2 ≤ h ∧ h ≤ 8) (hx : -2147483648 ≤ x ∧ x < 2147483648) (hy : -2147483648 ≤ y ∧ y < 2147483648) (hwhat : -2147483648 ≤ what ∧ what < 2147483648) (hbad : hB w h x y d = false) : MMi l yX5_border wsX5_border ({ frames := 2, cells := 0, slots := 0, locals := 45 }) D K ws [.ref (ad 66), .int (iZ x), .int (iZ y), .int (iZ (bZ d)), .int (iZ what)] (fun r u => (r = (iZ ((0 : Nat) : Int))) ∧ (u[66]? = some (ad 66, mO ad w h 1 nc rc)) ∧ (Fr (fun j => j = 66) ws u)) := by
  refine q_entMi RX5 [(0, .ref (ad 66)), (1, .int (iZ x)), (2, .int (iZ y)), (3, .int (iZ (bZ d))), (4, .int (iZ what))] (by decide) rfl rfl (Nat.le_of_ble_eq_true rfl) rfl ?_
  intro p e s m args below meth c hc hr hlk
  have i5 : ∀ w ∈ u_ws RX5 TX5 16, w ∈ wsX5_border := by decide +kernel
  have f52 := hc.1.2.2.2.2 (.fieldLink RX5 52 "GlobalRoutesModel" "thrown" "I") (by decide +kernel)
  have fr0 : Fr (fun j => j = 66) ws ws := Fr.rfl
  refine q_aload_n hc 0 dX5_border_0 rfl ?_
  refine q_iconstN hc 0 dX5_border_1 rfl ?_
  refine q_put (ty := .int) hc 66 0 i5 tyX5 tyX5_ok nmX5 h66 rfl (by decide) f52 rfl rfl (by decide +kernel) rfl rfl (Nat.le_of_ble_eq_true rfl) rfl dX5_border_2 (fun u1 hn' hf' => ?_)
  have hq2 : u1[66]? = some (ad 66, mO ad w h 0 nc rc) := hn'
  have fr3 := Fr.one hf'
  refine q_aload_n hc 0 dX5_border_5 rfl ?_
  refine q_aload_n hc 0 dX5_border_6 rfl ?_
  refine q_iload_n hc 1 dX5_border_7 rfl ?_
  refine q_iload_n hc 2 dX5_border_8 rfl ?_
  refine q_iload_n hc 3 dX5_border_9 rfl ?_
  refine q_callPz (As := [.int (iZ x), .int (iZ y), .int (iZ (bZ d))]) (rest := [.ref (ad 66)]) hc (c_X5_isBorder l D K u1 ad w h 0 nc rc x y d hq2 hw2 hx hy) (cwV 3 hc.1.2.2.2.2 gX5_border_X5_isBorder rfl rfl rfl (by decide +kernel) ⟨Nat.le_of_ble_eq_true rfl, Nat.le_of_ble_eq_true rfl⟩) 66 hq2 rfl rfl rfl (by simp [Value.category]) dX5_border_10 ⟨Nat.zero_le _, Nat.zero_le _⟩ ?_
  refine V.topv (show _ = Value.int (iZ (bZ false)) from by rw [hbad]) ?_
  refine q_ifz_ne hc 20 dX5_border_13 (by decide) (fun c6 => ?_) (fun c6 => ?_)
  · cases c6
  · refine q_iconstN hc 1 dX5_border_16 rfl ?_
    refine q_goto hc 21 dX5_border_17 (by decide) ?_
    refine q_iconstN hc 1 dX5_border_21 rfl ?_
    refine q_callMi (As := [.int (iZ (bZ true)), .int (iZ ((1 : Nat) : Int))]) (rest := []) hc (c_X5_fails l D K u1 ad w h nc rc true 1 hq2 (by omega)) (cwV 2 hc.1.2.2.2.2 gX5_border_X5_fails rfl rfl rfl (by decide +kernel) ⟨Nat.le_of_ble_eq_true rfl, Nat.le_of_ble_eq_true rfl⟩) 66 hq2 rfl rfl rfl (by decide) dX5_border_22 ⟨Nat.zero_le _, Nat.zero_le _⟩ (fun r8 u7 hp' => ?_)
    obtain ⟨hr11, hq9, fr10⟩ := hp'
    subst hr11
    have hq12 : u7[66]? = some (ad 66, mO ad w h 1 nc rc) := hq9
    refine q_ifz_ne hc 52 dX5_border_25 (by decide) (fun c13 => ?_) (fun c13 => ?_)
    · refine q_iconstN hc 0 dX5_border_52 rfl ?_
      exact q_iretM (z := ((0 : Nat) : Int)) hc (⟨rfl, hq12, ((fr0.trans fr3 (fun _ _ => by omega)).trans fr10 (fun _ _ => by omega))⟩) hr hlk dX5_border_53
    · cases c13

set_option maxRecDepth 100000 in
set_option maxHeartbeats 4000000 in
theorem c_X5_border_e2 (l : Launch) (D : va_G) (K : Nat → ClassId) (ws : va_W) (ad : Nat → Nat) (w h th nc rc : Nat) (x y : Int) (d : Bool) (what : Int) (h66 : ws[66]? = some (ad 66, mO ad w h th nc rc)) (hw2 : 2 ≤ w ∧ w ≤ 8 ∧ 2 ≤ h ∧ h ≤ 8) (hx : -2147483648 ≤ x ∧ x < 2147483648) (hy : -2147483648 ≤ y ∧ y < 2147483648) (hwhat : -2147483648 ≤ what ∧ what < 2147483648) (hok : hB w h x y d = true) (hbad : ¬ (0 ≤ what ∧ what < 4)) : MMi l yX5_border wsX5_border ({ frames := 2, cells := 0, slots := 0, locals := 45 }) D K ws [.ref (ad 66), .int (iZ x), .int (iZ y), .int (iZ (bZ d)), .int (iZ what)] (fun r u => (r = (iZ ((0 : Nat) : Int))) ∧ (u[66]? = some (ad 66, mO ad w h 2 nc rc)) ∧ (Fr (fun j => j = 66) ws u)) := by
  refine q_entMi RX5 [(0, .ref (ad 66)), (1, .int (iZ x)), (2, .int (iZ y)), (3, .int (iZ (bZ d))), (4, .int (iZ what))] (by decide) rfl rfl (Nat.le_of_ble_eq_true rfl) rfl ?_
  intro p e s m args below meth c hc hr hlk
  have i5 : ∀ w ∈ u_ws RX5 TX5 16, w ∈ wsX5_border := by decide +kernel
  have f52 := hc.1.2.2.2.2 (.fieldLink RX5 52 "GlobalRoutesModel" "thrown" "I") (by decide +kernel)
  have fr0 : Fr (fun j => j = 66) ws ws := Fr.rfl
  refine q_aload_n hc 0 dX5_border_0 rfl ?_
  refine q_iconstN hc 0 dX5_border_1 rfl ?_
  refine q_put (ty := .int) hc 66 0 i5 tyX5 tyX5_ok nmX5 h66 rfl (by decide) f52 rfl rfl (by decide +kernel) rfl rfl (Nat.le_of_ble_eq_true rfl) rfl dX5_border_2 (fun u1 hn' hf' => ?_)
  have hq2 : u1[66]? = some (ad 66, mO ad w h 0 nc rc) := hn'
  have fr3 := Fr.one hf'
  refine q_aload_n hc 0 dX5_border_5 rfl ?_
  refine q_aload_n hc 0 dX5_border_6 rfl ?_
  refine q_iload_n hc 1 dX5_border_7 rfl ?_
  refine q_iload_n hc 2 dX5_border_8 rfl ?_
  refine q_iload_n hc 3 dX5_border_9 rfl ?_
  refine q_callPz (As := [.int (iZ x), .int (iZ y), .int (iZ (bZ d))]) (rest := [.ref (ad 66)]) hc (c_X5_isBorder l D K u1 ad w h 0 nc rc x y d hq2 hw2 hx hy) (cwV 3 hc.1.2.2.2.2 gX5_border_X5_isBorder rfl rfl rfl (by decide +kernel) ⟨Nat.le_of_ble_eq_true rfl, Nat.le_of_ble_eq_true rfl⟩) 66 hq2 rfl rfl rfl (by simp [Value.category]) dX5_border_10 ⟨Nat.zero_le _, Nat.zero_le _⟩ ?_
  refine V.topv (show _ = Value.int (iZ (bZ true)) from by rw [hok]) ?_
  refine q_ifz_ne hc 20 dX5_border_13 (by decide) (fun c6 => ?_) (fun c6 => ?_)
  · refine q_iconstN hc 0 dX5_border_20 rfl ?_
    refine q_iconstN hc 1 dX5_border_21 rfl ?_
    refine q_callMi (As := [.int (iZ (bZ false)), .int (iZ ((1 : Nat) : Int))]) (rest := []) hc (c_X5_fails l D K u1 ad w h nc rc false 1 hq2 (by omega)) (cwV 2 hc.1.2.2.2.2 gX5_border_X5_fails rfl rfl rfl (by decide +kernel) ⟨Nat.le_of_ble_eq_true rfl, Nat.le_of_ble_eq_true rfl⟩) 66 hq2 rfl rfl rfl (by decide) dX5_border_22 ⟨Nat.zero_le _, Nat.zero_le _⟩ (fun r8 u7 hp' => ?_)
    obtain ⟨hr11, hq9, fr10⟩ := hp'
    subst hr11
    have hq12 : u7[66]? = some (ad 66, mO ad w h 0 nc rc) := hq9
    refine q_ifz_ne hc 52 dX5_border_25 (by decide) (fun c13 => ?_) (fun c13 => ?_)
    · cases c13
    · refine q_aload_n hc 0 dX5_border_28 rfl ?_
      refine q_iload hc 4 dX5_border_29 rfl ?_
      refine q_if_lt hc 40 dX5_border_31 (by decide) (by omega) (fun c14 => ?_) (fun c14 => ?_)
      · refine q_iconstN hc 1 dX5_border_40 rfl ?_
        refine q_goto hc 45 dX5_border_41 (by decide) ?_
        refine q_iconstN hc 2 dX5_border_45 rfl ?_
        refine q_callMi (As := [.int (iZ (bZ true)), .int (iZ ((2 : Nat) : Int))]) (rest := []) hc (c_X5_fails l D K u7 ad w h nc rc true 2 hq12 (by omega)) (cwV 2 hc.1.2.2.2.2 gX5_border_X5_fails rfl rfl rfl (by decide +kernel) ⟨Nat.le_of_ble_eq_true rfl, Nat.le_of_ble_eq_true rfl⟩) 66 hq12 rfl rfl rfl (by decide) dX5_border_46 ⟨Nat.zero_le _, Nat.zero_le _⟩ (fun r16 u15 hp' => ?_)
        obtain ⟨hr19, hq17, fr18⟩ := hp'
        subst hr19
        have hq20 : u15[66]? = some (ad 66, mO ad w h 2 nc rc) := hq17
        refine q_ifz_eq hc 54 dX5_border_49 (by decide) (fun c21 => ?_) (fun c21 => ?_)
        · cases c21
        · refine q_iconstN hc 0 dX5_border_52 rfl ?_
          exact q_iretM (z := ((0 : Nat) : Int)) hc (⟨rfl, hq20, (((fr0.trans fr3 (fun _ _ => by omega)).trans fr10 (fun _ _ => by omega)).trans fr18 (fun _ _ => by omega))⟩) hr hlk dX5_border_53
      · refine q_iload hc 4 dX5_border_34 rfl ?_
        refine q_iconstN hc 3 dX5_border_36 rfl ?_
        refine q_icmp_le hc 44 dX5_border_37 (by decide) (by omega) (by omega) (fun c22 => ?_) (fun c22 => ?_)
        · exact absurd c22 (by omega)
        · refine q_iconstN hc 1 dX5_border_40 rfl ?_
          refine q_goto hc 45 dX5_border_41 (by decide) ?_
          refine q_iconstN hc 2 dX5_border_45 rfl ?_
          refine q_callMi (As := [.int (iZ (bZ true)), .int (iZ ((2 : Nat) : Int))]) (rest := []) hc (c_X5_fails l D K u7 ad w h nc rc true 2 hq12 (by omega)) (cwV 2 hc.1.2.2.2.2 gX5_border_X5_fails rfl rfl rfl (by decide +kernel) ⟨Nat.le_of_ble_eq_true rfl, Nat.le_of_ble_eq_true rfl⟩) 66 hq12 rfl rfl rfl (by decide) dX5_border_46 ⟨Nat.zero_le _, Nat.zero_le _⟩ (fun r24 u23 hp' => ?_)
          obtain ⟨hr27, hq25, fr26⟩ := hp'
          subst hr27
          have hq28 : u23[66]? = some (ad 66, mO ad w h 2 nc rc) := hq25
          refine q_ifz_eq hc 54 dX5_border_49 (by decide) (fun c29 => ?_) (fun c29 => ?_)
          · cases c29
          · refine q_iconstN hc 0 dX5_border_52 rfl ?_
            exact q_iretM (z := ((0 : Nat) : Int)) hc (⟨rfl, hq28, (((fr0.trans fr3 (fun _ _ => by omega)).trans fr10 (fun _ _ => by omega)).trans fr26 (fun _ _ => by omega))⟩) hr hlk dX5_border_53
  · cases c6
