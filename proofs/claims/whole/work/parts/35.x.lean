theorem hB_yes {w h : Nat} {x y : Int} {d : Bool} (h0 : hB w h x y d = true) : 0 ≤ x ∧ x < (w : Int) ∧ 0 ≤ y ∧ y < (h : Int) := by
  cases d
  · have := of_decide_eq_true h0; omega
  · have := of_decide_eq_true h0; omega
/-- a border's number by its cell and way -/
def bIx (w : Nat) (x y : Int) (d : Bool) : Nat := 2 * (x.toNat + w * y.toNat) + bN d
theorem bIx_lt {w h n : Nat} {x y : Int} {d : Bool} (hxy : ∀ x y, x < w → y < h → x + w * y < n) (h0 : hB w h x y d = true) : bIx w x y d < 2 * n := by
  have h1 := hB_yes h0
  have h2 := hxy x.toNat y.toNat (by omega) (by omega)
  unfold bIx
  cases d
  · show 2 * (x.toNat + w * y.toNat) + 0 < 2 * n
    omega
  · show 2 * (x.toNat + w * y.toNat) + 1 < 2 * n
    omega

set_option maxRecDepth 100000 in
set_option maxHeartbeats 4000000 in
theorem c_X4_checkedNet (l : Launch) (hl : l.stackTraces = false) (D : va_G) (K : Nat → ClassId) (ws : va_W) (ad : Nat → Nat) (nc rc : Nat) (num : Int) (h0 : ws[0]? = some (ad 0, xO ad nc rc)) (h29 : ws[29]? = some (ad 29, nA K 12 (nF ad))) (hnc : nc ≤ 12) (hnum : -2147483648 ≤ num ∧ num < 2147483648) : MXr l yX4_checkedNet wsX4_checkedNet ({ frames := 6, cells := 1, slots := 6, locals := 90 }) D K ws [.ref (ad 0), .int (iZ num)] 1 (fun r u => (r = ad (30 + 3 * num.toNat)) ∧ (0 ≤ num ∧ num < (nc : Int)) ∧ (ws = u)) (fun E => E = "java/lang/IndexOutOfBoundsException" ∧ ¬ (0 ≤ num ∧ num < (nc : Int))) := by
  refine q_entXr RX4 [(0, .ref (ad 0)), (1, .int (iZ num))] (by decide) rfl rfl (Nat.le_of_ble_eq_true rfl) rfl ?_
  intro p e s m args below meth c hc hXE hout hr hlk
  have i4 : ∀ w ∈ u_ws RX4 TX4 6, w ∈ wsX4_checkedNet := by decide +kernel
  have f51 := hc.1.2.2.2.2 (.fieldLink RX4 51 "GlobalRoutes" "netCount" "I") (by decide +kernel)
  have f40 := hc.1.2.2.2.2 (.fieldLink RX4 40 "GlobalRoutes" "nets" "[LGlobalRoutes$Net;") (by decide +kernel)
  refine q_iload_n hc 1 dX4_checkedNet_0 rfl ?_
  refine q_if_lt hc 12 dX4_checkedNet_1 (by decide) (by omega) (fun c1 => ?_) (fun c1 => ?_)
  · exact q_throw (text := "there is no such net") hc hXE hl hout hlk (by decide +kernel) (by decide +kernel) (by decide +kernel) (by decide) rfl (by decide +kernel) (by decide +kernel) (by decide +kernel) dX4_checkedNet_12 dX4_checkedNet_15 dX4_checkedNet_16 dX4_checkedNet_18 dX4_checkedNet_21 (by decide) (by decide) ⟨Nat.le_of_ble_eq_true rfl, Nat.le_of_ble_eq_true rfl⟩ ⟨by decide, by decide⟩ (⟨rfl, by omega⟩)
  · refine q_iload_n hc 1 dX4_checkedNet_4 rfl ?_
    refine q_aload_n hc 0 dX4_checkedNet_5 rfl ?_
    refine q_get hc 0 4 i4 h0 rfl (by decide) f51 rfl rfl dX4_checkedNet_6 ?_
    refine q_icmp_lt hc 22 dX4_checkedNet_9 (by decide) (by omega) (by omega) (fun c2 => ?_) (fun c2 => ?_)
    · refine q_aload_n hc 0 dX4_checkedNet_22 rfl ?_
      refine q_get hc 0 3 i4 h0 rfl (by decide) f40 rfl rfl dX4_checkedNet_23 ?_
      refine q_iload_n hc 1 dX4_checkedNet_26 rfl ?_
      refine V.topi (show _ = ((num.toNat : Nat) : Int) from by omega) ?_
      refine q_nald (j := num.toNat) hc 29 h29 rfl (by omega) (by omega) dX4_checkedNet_27 ?_
      refine V.topv (show _ = Value.ref (ad (30 + 3 * num.toNat)) from rfl) ?_
      exact q_aretX (a := ad (30 + 3 * num.toNat)) hc (Or.inl ⟨_, rfl⟩) (⟨(rfl), (by omega), rfl⟩) hr hlk ⟨by decide, by decide⟩ dX4_checkedNet_28
    · exact q_throw (text := "there is no such net") hc hXE hl hout hlk (by decide +kernel) (by decide +kernel) (by decide +kernel) (by decide) rfl (by decide +kernel) (by decide +kernel) (by decide +kernel) dX4_checkedNet_12 dX4_checkedNet_15 dX4_checkedNet_16 dX4_checkedNet_18 dX4_checkedNet_21 (by decide) (by decide) ⟨Nat.le_of_ble_eq_true rfl, Nat.le_of_ble_eq_true rfl⟩ ⟨by decide, by decide⟩ (⟨rfl, by omega⟩)

set_option maxRecDepth 100000 in
set_option maxHeartbeats 4000000 in
theorem c_X4_checkedBorder (l : Launch) (hl : l.stackTraces = false) (D : va_G) (K : Nat → ClassId) (ws : va_W) (ad : Nat → Nat) (nc rc : Nat) (x y : Int) (d : Bool) (w h n : Nat) (h0 : ws[0]? = some (ad 0, xO ad nc rc)) (h1 : ws[1]? = some (ad 1, gO ad w h n)) (hx : -2147483648 ≤ x ∧ x < 2147483648) (hy : -2147483648 ≤ y ∧ y < 2147483648) (hn : n ≤ 64) (hw : 0 < w ∧ w ≤ 8 ∧ h ≤ 8) : MXi l yX4_checkedBorder wsX4_checkedBorder ({ frames := 6, cells := 1, slots := 6, locals := 90 }) D K ws [.ref (ad 0), .int (iZ x), .int (iZ y), .int (iZ (bZ d))] 1 (fun r u => (r = (iZ ((bIx w x y d : Nat) : Int))) ∧ (hB w h x y d = true) ∧ (ws = u)) (fun E => E = "java/lang/IndexOutOfBoundsException" ∧ hB w h x y d = false) := by
  refine q_entXi RX4 [(0, .ref (ad 0)), (1, .int (iZ x)), (2, .int (iZ y)), (3, .int (iZ (bZ d)))] (by decide) rfl rfl (Nat.le_of_ble_eq_true rfl) rfl ?_
  intro p e s m args below meth c hc hXE hout hr hlk
  have i4 : ∀ w ∈ u_ws RX4 TX4 6, w ∈ wsX4_checkedBorder := by decide +kernel
  have f18 := hc.1.2.2.2.2 (.fieldLink RX4 18 "GlobalRoutes" "grid" "LGlobalRoutes$Grid;") (by decide +kernel)
  refine q_aload_n hc 0 dX4_checkedBorder_0 rfl ?_
  refine q_get hc 0 0 i4 h0 rfl (by decide) f18 rfl rfl dX4_checkedBorder_1 ?_
  refine q_iload_n hc 1 dX4_checkedBorder_4 rfl ?_
  refine q_iload_n hc 2 dX4_checkedBorder_5 rfl ?_
  refine q_iload_n hc 3 dX4_checkedBorder_6 rfl ?_
  refine q_callPz (As := [.int (iZ x), .int (iZ y), .int (iZ (bZ d))]) (rest := []) hc (c_X0_hasBorder l D K ws ad x y d w h n h1 hx hy hn hw) (cwV 3 hc.1.2.2.2.2 gX4_checkedBorder_X0_hasBorder rfl rfl rfl (by decide +kernel) ⟨Nat.le_of_ble_eq_true rfl, Nat.le_of_ble_eq_true rfl⟩) 1 h1 rfl rfl rfl (by decide) dX4_checkedBorder_7 ⟨Nat.le_of_ble_eq_true rfl, Nat.le_of_ble_eq_true rfl⟩ ?_
  refine q_ifz_ne hc 23 dX4_checkedBorder_10 (by decide) (fun c3 => ?_) (fun c3 => ?_)
  · have hy9 := hB_yes c3
    refine q_aload_n hc 0 dX4_checkedBorder_23 rfl ?_
    refine q_get hc 0 0 i4 h0 rfl (by decide) f18 rfl rfl dX4_checkedBorder_24 ?_
    refine q_iload_n hc 1 dX4_checkedBorder_27 rfl ?_
    refine V.topi (show _ = ((x.toNat : Nat) : Int) from by omega) ?_
    refine q_iload_n hc 2 dX4_checkedBorder_28 rfl ?_
    refine V.topi (show _ = ((y.toNat : Nat) : Int) from by omega) ?_
    refine q_iload_n hc 3 dX4_checkedBorder_29 rfl ?_
    refine q_callPn (As := [.int (iZ ((x.toNat : Nat) : Int)), .int (iZ ((y.toNat : Nat) : Int)), .int (iZ (bZ d))]) (rest := []) hc (c_X0_borderAt l D K ws ad x.toNat y.toNat d w h n h1 ) (cwV 3 hc.1.2.2.2.2 gX4_checkedBorder_X0_borderAt rfl rfl rfl (by decide +kernel) ⟨Nat.le_of_ble_eq_true rfl, Nat.le_of_ble_eq_true rfl⟩) 1 h1 rfl rfl rfl (by decide) dX4_checkedBorder_30 ⟨Nat.le_of_ble_eq_true rfl, Nat.le_of_ble_eq_true rfl⟩ ?_
    exact q_iretX (z := ((2 * (x.toNat + w * y.toNat) + bN d : Nat) : Int)) hc (⟨rfl, c3, rfl⟩) hr hlk ⟨by decide, by decide⟩ dX4_checkedBorder_33
  · exact q_throw (text := "there is no such border") hc hXE hl hout hlk (by decide +kernel) (by decide +kernel) (by decide +kernel) (by decide) rfl (by decide +kernel) (by decide +kernel) (by decide +kernel) dX4_checkedBorder_13 dX4_checkedBorder_16 dX4_checkedBorder_17 dX4_checkedBorder_19 dX4_checkedBorder_22 (by decide) (by decide) ⟨Nat.le_of_ble_eq_true rfl, Nat.le_of_ble_eq_true rfl⟩ ⟨by decide, by decide⟩ (⟨rfl, c3⟩)

set_option maxRecDepth 100000 in
set_option maxHeartbeats 4000000 in
theorem c_X4_capacity (l : Launch) (hl : l.stackTraces = false) (D : va_G) (K : Nat → ClassId) (ws : va_W) (ad : Nat → Nat) (nc rc : Nat) (x y : Int) (d : Bool) (w h n : Nat) (c0 : Int) (cap : Nat → Nat) (h0 : ws[0]? = some (ad 0, xO ad nc rc)) (h1 : ws[1]? = some (ad 1, gO ad w h n)) (h2 : ws[2]? = some (ad 2, iN K (2 * n) cap)) (hx : -2147483648 ≤ x ∧ x < 2147483648) (hy : -2147483648 ≤ y ∧ y < 2147483648) (hc0 : -2147483648 ≤ c0 ∧ c0 < 2147483648) (hn : n ≤ 64) (hw : 0 < w ∧ w ≤ 8 ∧ h ≤ 8) (hxy : ∀ x y, x < w → y < h → x + w * y < n) (hcap : ∀ k, k < 2 * n → cap k ≤ 20) : MXi l yX4_capacity wsX4_capacity ({ frames := 7, cells := 2, slots := 12, locals := 113 }) D K ws [.ref (ad 0), .int (iZ x), .int (iZ y), .int (iZ (bZ d)), .int (iZ c0)] 2 (fun r u => (r = (iZ ((cap (bIx w x y d) : Nat) : Int))) ∧ (hB w h x y d = true) ∧ (0 ≤ c0 ∧ c0 ≤ 20) ∧ (u[2]? = some (ad 2, iN K (2 * n) (va_up cap (bIx w x y d) c0.toNat))) ∧ (Fr (fun j => j = 2) ws u)) (fun E => (E = "java/lang/IndexOutOfBoundsException" ∧ hB w h x y d = false) ∨ (E = "java/lang/IllegalArgumentException" ∧ hB w h x y d = true ∧ ¬ (0 ≤ c0 ∧ c0 ≤ 20))) := by
  refine q_entXi RX4 [(0, .ref (ad 0)), (1, .int (iZ x)), (2, .int (iZ y)), (3, .int (iZ (bZ d))), (4, .int (iZ c0))] (by decide) rfl rfl (Nat.le_of_ble_eq_true rfl) rfl ?_
  intro p e s m args below meth c hc hXE hout hr hlk
  have i4 : ∀ w ∈ u_ws RX4 TX4 6, w ∈ wsX4_capacity := by decide +kernel
  have f18 := hc.1.2.2.2.2 (.fieldLink RX4 18 "GlobalRoutes" "grid" "LGlobalRoutes$Grid;") (by decide +kernel)
  have i0 : ∀ w ∈ u_ws RX0 TX0 9, w ∈ wsX4_capacity := by decide +kernel
  have f68 := hc.1.2.2.2.2 (.fieldLink RX4 68 "GlobalRoutes$Grid" "capacities" "[I") (by decide +kernel)
  have fr0 : Fr (fun j => j = 2) ws ws := Fr.rfl
  refine q_aload_n hc 0 dX4_capacity_0 rfl ?_
  refine q_iload_n hc 1 dX4_capacity_1 rfl ?_
  refine q_iload_n hc 2 dX4_capacity_2 rfl ?_
  refine q_iload_n hc 3 dX4_capacity_3 rfl ?_
  refine q_callXi (As := [.int (iZ x), .int (iZ y), .int (iZ (bZ d))]) (rest := []) hc hXE hout hlk (c_X4_checkedBorder l hl D K ws ad nc rc x y d w h n h0 h1 hx hy hn hw) (cwV 3 hc.1.2.2.2.2 gX4_capacity_X4_checkedBorder rfl rfl rfl (by decide +kernel) ⟨Nat.le_of_ble_eq_true rfl, Nat.le_of_ble_eq_true rfl⟩) 0 h0 rfl rfl rfl (by decide) dX4_capacity_4 ⟨Nat.le_of_ble_eq_true rfl, Nat.le_of_ble_eq_true rfl⟩ ⟨by decide, by decide⟩ (fun E h => Or.inl h) (fun r2 u1 hp' => ?_)
  obtain ⟨hr3, hx4, hw5⟩ := hp'; subst hw5; subst hr3
  refine q_istore hc [(5, .int (iZ ((bIx w x y d : Nat) : Int))), (0, .ref (ad 0)), (1, .int (iZ x)), (2, .int (iZ y)), (3, .int (iZ (bZ d))), (4, .int (iZ c0))] dX4_capacity_7 (by decide) rfl ?_
  refine q_iload hc 5 dX4_capacity_9 rfl ?_
  refine q_if_lt hc 21 dX4_capacity_11 (by decide) (by omega) (fun c6 => ?_) (fun c6 => ?_)
  · exact q_throw (text := "a capacity is 0 .. 20") hc hXE hl hout hlk (by decide +kernel) (by decide +kernel) (by decide +kernel) (by decide) rfl (by decide +kernel) (by decide +kernel) (by decide +kernel) dX4_capacity_21 dX4_capacity_24 dX4_capacity_25 dX4_capacity_27 dX4_capacity_30 (by decide) (by decide) ⟨Nat.le_of_ble_eq_true rfl, Nat.le_of_ble_eq_true rfl⟩ ⟨by decide, by decide⟩ (Or.inr ⟨rfl, hx4, by omega⟩)
  · refine q_iload hc 5 dX4_capacity_14 rfl ?_
    refine q_bipushN hc 20 dX4_capacity_16 (by decide +kernel) ?_
    refine q_icmp_le hc 31 dX4_capacity_18 (by decide) (by omega) (by omega) (fun c7 => ?_) (fun c7 => ?_)
    · have hb9 := bIx_lt hxy hx4
      refine q_aload_n hc 1 dX4_capacity_31 rfl ?_
      refine q_get hc 0 0 i4 h0 rfl (by decide) f18 rfl rfl dX4_capacity_32 ?_
      refine q_get hc 1 4 i0 h1 rfl (by decide) f68 rfl rfl dX4_capacity_35 ?_
      refine q_iload hc 0 dX4_capacity_38 rfl ?_
      refine q_ialdN (j := bIx w x y d) hc 2 h2 rfl (by omega) (by omega) dX4_capacity_40 ?_
      refine q_istore hc [(6, .int (iZ ((cap (bIx w x y d) : Nat) : Int))), (5, .int (iZ ((bIx w x y d : Nat) : Int))), (0, .ref (ad 0)), (1, .int (iZ x)), (2, .int (iZ y)), (3, .int (iZ (bZ d))), (4, .int (iZ c0))] dX4_capacity_41 (by decide) rfl ?_
      refine q_aload_n hc 2 dX4_capacity_43 rfl ?_
      refine q_get hc 0 0 i4 h0 rfl (by decide) f18 rfl rfl dX4_capacity_44 ?_
      refine q_get hc 1 4 i0 h1 rfl (by decide) f68 rfl rfl dX4_capacity_47 ?_
      refine q_iload hc 1 dX4_capacity_50 rfl ?_
      refine q_iload hc 6 dX4_capacity_52 rfl ?_
      refine V.topi (show _ = ((c0.toNat : Nat) : Int) from by omega) ?_
      refine q_iastN (j := bIx w x y d) (x := c0.toNat) hc 2 h2 rfl (by omega) (by omega) dX4_capacity_54 (fun u8 hn' hf' => ?_)
      have hq9 : u8[2]? = some (ad 2, iN K (2 * n) (va_up cap (bIx w x y d) c0.toNat)) := hn'
      have hq10 := (hf' 0 (by omega)).trans h0
      have hq11 := (hf' 1 (by omega)).trans h1
      have fr12 := Fr.one hf'
      refine q_iload hc 0 dX4_capacity_55 rfl ?_
      exact q_iretX (z := ((cap (bIx w x y d) : Nat) : Int)) hc (⟨rfl, hx4, by omega, hq9, (fr0.trans fr12 (fun _ _ => by omega))⟩) hr hlk ⟨by decide, by decide⟩ dX4_capacity_57
    · exact q_throw (text := "a capacity is 0 .. 20") hc hXE hl hout hlk (by decide +kernel) (by decide +kernel) (by decide +kernel) (by decide) rfl (by decide +kernel) (by decide +kernel) (by decide +kernel) dX4_capacity_21 dX4_capacity_24 dX4_capacity_25 dX4_capacity_27 dX4_capacity_30 (by decide) (by decide) ⟨Nat.le_of_ble_eq_true rfl, Nat.le_of_ble_eq_true rfl⟩ ⟨by decide, by decide⟩ (Or.inr ⟨rfl, hx4, by omega⟩)

set_option maxRecDepth 100000 in
set_option maxHeartbeats 4000000 in
theorem c_X4_net (l : Launch) (hl : l.stackTraces = false) (D : va_G) (K : Nat → ClassId) (ws : va_W) (ad : Nat → Nat) (nc rc : Nat) (h0 : ws[0]? = some (ad 0, xO ad nc rc)) (hnc : nc ≤ 12) : MXi l yX4_net wsX4_net ({ frames := 6, cells := 1, slots := 6, locals := 90 }) D K ws [.ref (ad 0)] 1 (fun r u => (r = (iZ ((nc : Nat) : Int))) ∧ (nc < 12) ∧ (u[0]? = some (ad 0, xO ad (nc + 1) rc)) ∧ (Fr (fun j => j = 0) ws u)) (fun E => E = "java/lang/IllegalStateException" ∧ 12 ≤ nc) := by
  refine q_entXi RX4 [(0, .ref (ad 0))] (by decide) rfl rfl (Nat.le_of_ble_eq_true rfl) rfl ?_
  intro p e s m args below meth c hc hXE hout hr hlk
  have i4 : ∀ w ∈ u_ws RX4 TX4 6, w ∈ wsX4_net := by decide +kernel
  have f51 := hc.1.2.2.2.2 (.fieldLink RX4 51 "GlobalRoutes" "netCount" "I") (by decide +kernel)
  have fr0 : Fr (fun j => j = 0) ws ws := Fr.rfl
  refine q_aload_n hc 0 dX4_net_0 rfl ?_
  refine q_get hc 0 4 i4 h0 rfl (by decide) f51 rfl rfl dX4_net_1 ?_
  refine q_bipushN hc 12 dX4_net_4 (by decide +kernel) ?_
  refine q_icmpN_lt hc 19 dX4_net_6 (by decide) (by omega) (by omega) (fun c1 => ?_) (fun c1 => ?_)
  · refine q_aload_n hc 0 dX4_net_19 rfl ?_
    refine q_dup hc dX4_net_20 rfl ?_
    refine q_get hc 0 4 i4 h0 rfl (by decide) f51 rfl rfl dX4_net_21 ?_
    refine q_iconstN hc 1 dX4_net_24 rfl ?_
    refine q_iaddN hc dX4_net_25 ?_
    refine q_put (ty := .int) hc 0 4 i4 tyX4 tyX4_ok nmX4 h0 rfl (by decide) f51 rfl rfl (by decide +kernel) rfl rfl (Nat.le_of_ble_eq_true rfl) rfl dX4_net_26 (fun u2 hn' hf' => ?_)
    have hq3 : u2[0]? = some (ad 0, .inr (4, [.ref (ad 1), .ref (ad 7), .ref (ad 11), .ref (ad 29), .int (iZ ((nc + 1 : Nat) : Int)), .int (iZ ((rc : Nat) : Int))])) := hn'
    have fr4 := Fr.one hf'
    refine q_aload_n hc 0 dX4_net_29 rfl ?_
    refine q_get hc 0 4 i4 hq3 rfl (by decide) f51 rfl rfl dX4_net_30 ?_
    refine q_iconstN hc 1 dX4_net_33 rfl ?_
    refine q_isubN hc dX4_net_34 (by omega) ?_
    exact q_iretX (z := (((nc + 1) - 1 : Nat) : Int)) hc (⟨congrArg iZ (by omega), by omega, hq3, (fr0.trans fr4 (fun _ _ => by omega))⟩) hr hlk ⟨by decide, by decide⟩ dX4_net_35
  · exact q_throw (text := "there are at most 12 nets") hc hXE hl hout hlk (by decide +kernel) (by decide +kernel) (by decide +kernel) (by decide) rfl (by decide +kernel) (by decide +kernel) (by decide +kernel) dX4_net_9 dX4_net_12 dX4_net_13 dX4_net_15 dX4_net_18 (by decide) (by decide) ⟨Nat.le_of_ble_eq_true rfl, Nat.le_of_ble_eq_true rfl⟩ ⟨by decide, by decide⟩ (⟨rfl, by omega⟩)
