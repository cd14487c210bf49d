
set_option maxRecDepth 100000 in
set_option maxHeartbeats 4000000 in
theorem c_X0_sumOnLine (l : Launch) (D : va_G) (K : Nat → ClassId) (ws : va_W) (ad : Nat → Nat) (pa k : Nat) (d : Bool) (w h n : Nat) (f : Nat → Nat) (h1 : ws[1]? = some (ad 1, gO ad w h n)) (hA : ws[pa]? = some (ad pa, iN K (2 * n) f)) (hn : n ≤ 64) (hw : 0 < w ∧ w ≤ 8 ∧ h ≤ 8) (hxy : ∀ x y, x < w → y < h → x + w * y < n) (hk1 : d = true → k < h) (hk0 : d = false → k < w) : MPi l yX0_sumOnLine wsX0_sumOnLine ({ frames := 2, cells := 0, slots := 0, locals := 45 }) D K ws [.ref (ad 1), .ref (ad pa), .int (iZ (bZ d)), .int (iZ ((k : Nat) : Int))] (fun r => r = (iZ ((sm (fun j => f (lnB w k d j)) (lnN w h d) : Nat) : Int))) := by
  refine q_entPi RX0 [(0, .ref (ad 1)), (1, .ref (ad pa)), (2, .int (iZ (bZ d))), (3, .int (iZ ((k : Nat) : Int)))] (by decide) rfl rfl (Nat.le_of_ble_eq_true rfl) rfl ?_
  intro p e s m args below meth c hc hr hlk
  have i0 : ∀ w ∈ u_ws RX0 TX0 9, w ∈ wsX0_sumOnLine := by decide +kernel
  have f15 := hc.1.2.2.2.2 (.fieldLink RX0 15 "GlobalRoutes$Grid" "height" "I") (by decide +kernel)
  have f9 := hc.1.2.2.2.2 (.fieldLink RX0 9 "GlobalRoutes$Grid" "width" "I") (by decide +kernel)
  refine q_iconstN hc 0 dX0_sumOnLine_0 rfl ?_
  refine q_istore hc [(4, .int (iZ ((0 : Nat) : Int))), (0, .ref (ad 1)), (1, .ref (ad pa)), (2, .int (iZ (bZ d))), (3, .int (iZ ((k : Nat) : Int)))] dX0_sumOnLine_1 (by decide) rfl ?_
  refine q_iload_n hc 3 dX0_sumOnLine_3 rfl ?_
  refine q_ifz_eq hc 14 dX0_sumOnLine_4 (by decide) (fun c1 => ?_) (fun c1 => ?_)
  · subst c1
    refine q_aload_n hc 1 dX0_sumOnLine_14 rfl ?_
    refine q_get hc 1 1 i0 h1 rfl (by decide) f15 rfl rfl dX0_sumOnLine_15 ?_
    refine q_istore hc [(5, .int (iZ ((h : Nat) : Int))), (4, .int (iZ ((0 : Nat) : Int))), (0, .ref (ad 1)), (1, .ref (ad pa)), (2, .int (iZ (bZ false))), (3, .int (iZ ((k : Nat) : Int)))] dX0_sumOnLine_18 (by decide) rfl ?_
    refine q_iconstN hc 0 dX0_sumOnLine_20 rfl ?_
    refine q_istore hc [(6, .int (iZ ((0 : Nat) : Int))), (5, .int (iZ ((h : Nat) : Int))), (4, .int (iZ ((0 : Nat) : Int))), (0, .ref (ad 1)), (1, .ref (ad pa)), (2, .int (iZ (bZ false))), (3, .int (iZ ((k : Nat) : Int)))] dX0_sumOnLine_21 (by decide) rfl ?_
    refine V.sub [3, 4, 5, 6, 2, 1, 0] rfl ?_
    refine V.loopP (α := Nat × Nat) (fun x => h - x.1) (fun x => (x.1 ≤ h) ∧ (x.2 = sm (fun j => f (lnB w k false j)) x.1)) (fun x => [(0, .ref (ad 1)), (1, .ref (ad pa)), (2, .int (iZ (bZ false))), (3, .int (iZ ((k : Nat) : Int))), (4, .int (iZ ((x.2 : Nat) : Int))), (5, .int (iZ ((h : Nat) : Int))), (6, .int (iZ ((x.1 : Nat) : Int)))]) (0, 0) ⟨(Nat.zero_le _), (rfl)⟩ rfl ?_
    intro x ih23 hI
    obtain ⟨i, a⟩ := x
    try dsimp only at ih23 hI ⊢
    obtain ⟨hi0, ha⟩ := hI
    refine q_iload hc 6 dX0_sumOnLine_23 rfl ?_
    refine q_iload hc 5 dX0_sumOnLine_25 rfl ?_
    refine q_icmpN_ge hc 66 dX0_sumOnLine_27 (by decide) (by omega) (by omega) (fun c3 => ?_) (fun c3 => ?_)
    · refine q_iload hc 4 dX0_sumOnLine_66 rfl ?_
      exact q_iretP (z := ((a : Nat) : Int)) hc (by rw [ha, show i = h by omega]; rfl) hr hlk dX0_sumOnLine_68
    · refine q_iload hc 4 dX0_sumOnLine_30 rfl ?_
      refine q_aload_n hc 1 dX0_sumOnLine_32 rfl ?_
      refine q_iload_n hc 2 dX0_sumOnLine_33 rfl ?_
      refine q_ifz_eq hc 48 dX0_sumOnLine_34 (by decide) (fun c4 => ?_) (fun c4 => ?_)
      · refine q_aload_n hc 0 dX0_sumOnLine_48 rfl ?_
        refine q_iload_n hc 3 dX0_sumOnLine_49 rfl ?_
        refine q_iload hc 6 dX0_sumOnLine_50 rfl ?_
        refine q_iconstN hc 0 dX0_sumOnLine_52 rfl ?_
        refine q_callPn (As := [.int (iZ ((k : Nat) : Int)), .int (iZ ((i : Nat) : Int)), .int (iZ (bZ false))]) (rest := [.ref (ad pa), .int (iZ ((a : Nat) : Int))]) hc (c_X0_borderAt l D K ws ad k i false w h n h1 ) (cwV 3 hc.1.2.2.2.2 gX0_sumOnLine_X0_borderAt rfl rfl rfl (by decide +kernel) ⟨Nat.le_of_ble_eq_true rfl, Nat.le_of_ble_eq_true rfl⟩) 1 h1 rfl rfl rfl (by simp [Value.category]) dX0_sumOnLine_53 ⟨Nat.zero_le _, Nat.zero_le _⟩ ?_
        refine V.topi (show _ = ((2 * (k + w * i) : Nat) : Int) from rfl) ?_
        have h9 := hxy k i (hk0 rfl) (by omega)
        refine q_ialdN (j := 2 * (k + w * i)) hc pa hA rfl (by omega) (by omega) dX0_sumOnLine_56 ?_
        refine q_iaddN hc dX0_sumOnLine_57 ?_
        refine q_istore hc [(4, .int (iZ ((a + (f (2 * (k + w * i))) : Nat) : Int))), (0, .ref (ad 1)), (1, .ref (ad pa)), (2, .int (iZ (bZ false))), (3, .int (iZ ((k : Nat) : Int))), (5, .int (iZ ((h : Nat) : Int))), (6, .int (iZ ((i : Nat) : Int)))] dX0_sumOnLine_58 (by decide) rfl ?_
        refine q_iincN (q := 6) hc 1 [(6, .int (iZ ((i + 1 : Nat) : Int))), (4, .int (iZ ((a + (f (2 * (k + w * i))) : Nat) : Int))), (0, .ref (ad 1)), (1, .ref (ad pa)), (2, .int (iZ (bZ false))), (3, .int (iZ ((k : Nat) : Int))), (5, .int (iZ ((h : Nat) : Int)))] dX0_sumOnLine_60 rfl rfl (by decide) rfl ?_
        refine q_goto hc 23 dX0_sumOnLine_63 (by decide) ?_
        refine V.sub [2, 3, 4, 5, 1, 6, 0] rfl ?_
        exact ih23 (i + 1, a + (f (2 * (k + w * i)))) (by omega) ⟨(by omega), (by subst ha; rfl)⟩
      · cases c4
  · subst c1
    refine q_aload_n hc 1 dX0_sumOnLine_7 rfl ?_
    refine q_get hc 1 0 i0 h1 rfl (by decide) f9 rfl rfl dX0_sumOnLine_8 ?_
    refine q_goto hc 18 dX0_sumOnLine_11 (by decide) ?_
    refine q_istore hc [(5, .int (iZ ((w : Nat) : Int))), (4, .int (iZ ((0 : Nat) : Int))), (0, .ref (ad 1)), (1, .ref (ad pa)), (2, .int (iZ (bZ true))), (3, .int (iZ ((k : Nat) : Int)))] dX0_sumOnLine_18 (by decide) rfl ?_
    refine q_iconstN hc 0 dX0_sumOnLine_20 rfl ?_
    refine q_istore hc [(6, .int (iZ ((0 : Nat) : Int))), (5, .int (iZ ((w : Nat) : Int))), (4, .int (iZ ((0 : Nat) : Int))), (0, .ref (ad 1)), (1, .ref (ad pa)), (2, .int (iZ (bZ true))), (3, .int (iZ ((k : Nat) : Int)))] dX0_sumOnLine_21 (by decide) rfl ?_
    refine V.sub [3, 4, 5, 6, 2, 1, 0] rfl ?_
    refine V.loopP (α := Nat × Nat) (fun x => w - x.1) (fun x => (x.1 ≤ w) ∧ (x.2 = sm (fun j => f (lnB w k true j)) x.1)) (fun x => [(0, .ref (ad 1)), (1, .ref (ad pa)), (2, .int (iZ (bZ true))), (3, .int (iZ ((k : Nat) : Int))), (4, .int (iZ ((x.2 : Nat) : Int))), (5, .int (iZ ((w : Nat) : Int))), (6, .int (iZ ((x.1 : Nat) : Int)))]) (0, 0) ⟨(Nat.zero_le _), (rfl)⟩ rfl ?_
    intro x ih23 hI
    obtain ⟨i, a⟩ := x
    try dsimp only at ih23 hI ⊢
    obtain ⟨hi0, ha⟩ := hI
    refine q_iload hc 6 dX0_sumOnLine_23 rfl ?_
    refine q_iload hc 5 dX0_sumOnLine_25 rfl ?_
    refine q_icmpN_ge hc 66 dX0_sumOnLine_27 (by decide) (by omega) (by omega) (fun c8 => ?_) (fun c8 => ?_)
    · refine q_iload hc 4 dX0_sumOnLine_66 rfl ?_
      exact q_iretP (z := ((a : Nat) : Int)) hc (by rw [ha, show i = w by omega]; rfl) hr hlk dX0_sumOnLine_68
    · refine q_iload hc 4 dX0_sumOnLine_30 rfl ?_
      refine q_aload_n hc 1 dX0_sumOnLine_32 rfl ?_
      refine q_iload_n hc 2 dX0_sumOnLine_33 rfl ?_
      refine q_ifz_eq hc 48 dX0_sumOnLine_34 (by decide) (fun c9 => ?_) (fun c9 => ?_)
      · cases c9
      · refine q_aload_n hc 0 dX0_sumOnLine_37 rfl ?_
        refine q_iload hc 6 dX0_sumOnLine_38 rfl ?_
        refine q_iload_n hc 3 dX0_sumOnLine_40 rfl ?_
        refine q_iconstN hc 1 dX0_sumOnLine_41 rfl ?_
        refine q_callPn (As := [.int (iZ ((i : Nat) : Int)), .int (iZ ((k : Nat) : Int)), .int (iZ (bZ true))]) (rest := [.ref (ad pa), .int (iZ ((a : Nat) : Int))]) hc (c_X0_borderAt l D K ws ad i k true w h n h1 ) (cwV 3 hc.1.2.2.2.2 gX0_sumOnLine_X0_borderAt rfl rfl rfl (by decide +kernel) ⟨Nat.le_of_ble_eq_true rfl, Nat.le_of_ble_eq_true rfl⟩) 1 h1 rfl rfl rfl (by simp [Value.category]) dX0_sumOnLine_42 ⟨Nat.zero_le _, Nat.zero_le _⟩ ?_
        refine q_goto hc 56 dX0_sumOnLine_45 (by decide) ?_
        refine V.topi (show _ = ((2 * (i + w * k) + 1 : Nat) : Int) from rfl) ?_
        have h9 := hxy i k (by omega) (hk1 rfl)
        refine q_ialdN (j := 2 * (i + w * k) + 1) hc pa hA rfl (by omega) (by omega) dX0_sumOnLine_56 ?_
        refine q_iaddN hc dX0_sumOnLine_57 ?_
        refine q_istore hc [(4, .int (iZ ((a + (f (2 * (i + w * k) + 1)) : Nat) : Int))), (0, .ref (ad 1)), (1, .ref (ad pa)), (2, .int (iZ (bZ true))), (3, .int (iZ ((k : Nat) : Int))), (5, .int (iZ ((w : Nat) : Int))), (6, .int (iZ ((i : Nat) : Int)))] dX0_sumOnLine_58 (by decide) rfl ?_
        refine q_iincN (q := 6) hc 1 [(6, .int (iZ ((i + 1 : Nat) : Int))), (4, .int (iZ ((a + (f (2 * (i + w * k) + 1)) : Nat) : Int))), (0, .ref (ad 1)), (1, .ref (ad pa)), (2, .int (iZ (bZ true))), (3, .int (iZ ((k : Nat) : Int))), (5, .int (iZ ((w : Nat) : Int)))] dX0_sumOnLine_60 rfl rfl (by decide) rfl ?_
        refine q_goto hc 23 dX0_sumOnLine_63 (by decide) ?_
        refine V.sub [2, 3, 4, 5, 1, 6, 0] rfl ?_
        exact ih23 (i + 1, a + (f (2 * (i + w * k) + 1))) (by omega) ⟨(by omega), (by subst ha; rfl)⟩

set_option maxRecDepth 100000 in
set_option maxHeartbeats 4000000 in
theorem c_X3_isRoutable (l : Launch) (D : va_G) (K : Nat → ClassId) (ws : va_W) (ad : Nat → Nat) (t : Nat) (pn : Nat) (rl : Int) (hno : ws[30 + 3 * t]? = some (ad (30 + 3 * t), nO ad t pn rl)) (hpn : pn ≤ 5) : MPi l yX3_isRoutable wsX3_isRoutable ({ frames := 0, cells := 0, slots := 0, locals := 0 }) D K ws [.ref (ad (30 + 3 * t))] (fun r => r = (iZ (bZ (decide (2 ≤ pn))))) := by
  refine q_entPi RX3 [(0, .ref (ad (30 + 3 * t)))] (by decide) rfl rfl (Nat.le_of_ble_eq_true rfl) rfl ?_
  intro p e s m args below meth c hc hr hlk
  have i3 : ∀ w ∈ u_ws RX3 TX3 4, w ∈ wsX3_isRoutable := by decide +kernel
  have f19 := hc.1.2.2.2.2 (.fieldLink RX3 19 "GlobalRoutes$Net" "pinCount" "I") (by decide +kernel)
  refine q_aload_n hc 0 dX3_isRoutable_0 rfl ?_
  refine q_get hc (30 + 3 * t) 2 i3 hno rfl (by decide) f19 rfl rfl dX3_isRoutable_1 ?_
  refine q_iconstN hc 2 dX3_isRoutable_4 rfl ?_
  refine q_icmpN_lt hc 12 dX3_isRoutable_5 (by decide) (by omega) (by omega) (fun c1 => ?_) (fun c1 => ?_)
  · refine q_iconstN hc 0 dX3_isRoutable_12 rfl ?_
    exact q_zretP (b := false) hc (congrArg (fun b => iZ (bZ b)) (decide_eq_false (by omega)).symm) hr hlk dX3_isRoutable_13
  · refine q_iconstN hc 1 dX3_isRoutable_8 rfl ?_
    refine q_goto hc 13 dX3_isRoutable_9 (by decide) ?_
    exact q_zretP (b := true) hc (congrArg (fun b => iZ (bZ b)) (decide_eq_true (by omega)).symm) hr hlk dX3_isRoutable_13

set_option maxRecDepth 100000 in
set_option maxHeartbeats 4000000 in
theorem c_X3_isRouted (l : Launch) (D : va_G) (K : Nat → ClassId) (ws : va_W) (ad : Nat → Nat) (t : Nat) (pn : Nat) (rl : Int) (hno : ws[30 + 3 * t]? = some (ad (30 + 3 * t), nO ad t pn rl)) (hrl : -1 ≤ rl ∧ rl ≤ 128) : MPi l yX3_isRouted wsX3_isRouted ({ frames := 0, cells := 0, slots := 0, locals := 0 }) D K ws [.ref (ad (30 + 3 * t))] (fun r => r = (iZ (bZ (decide (¬ rl = -1))))) := by
  refine q_entPi RX3 [(0, .ref (ad (30 + 3 * t)))] (by decide) rfl rfl (Nat.le_of_ble_eq_true rfl) rfl ?_
  intro p e s m args below meth c hc hr hlk
  have i3 : ∀ w ∈ u_ws RX3 TX3 4, w ∈ wsX3_isRouted := by decide +kernel
  have f23 := hc.1.2.2.2.2 (.fieldLink RX3 23 "GlobalRoutes$Net" "routeLength" "I") (by decide +kernel)
  refine q_aload_n hc 0 dX3_isRouted_0 rfl ?_
  refine q_get hc (30 + 3 * t) 3 i3 hno rfl (by decide) f23 rfl rfl dX3_isRouted_1 ?_
  refine q_iconst hc dX3_isRouted_4 ?_
  refine q_icmp_eq hc 12 dX3_isRouted_5 (by decide) (by omega) (by omega) (fun c1 => ?_) (fun c1 => ?_)
  · refine q_iconstN hc 0 dX3_isRouted_12 rfl ?_
    exact q_zretP (b := false) hc (congrArg (fun b => iZ (bZ b)) (decide_eq_false (by omega)).symm) hr hlk dX3_isRouted_13
  · refine q_iconstN hc 1 dX3_isRouted_8 rfl ?_
    refine q_goto hc 13 dX3_isRouted_9 (by decide) ?_
    exact q_zretP (b := true) hc (congrArg (fun b => iZ (bZ b)) (decide_eq_true (by omega)).symm) hr hlk dX3_isRouted_13

set_option maxRecDepth 100000 in
set_option maxHeartbeats 4000000 in
theorem c_X3_hasPin (l : Launch) (D : va_G) (K : Nat → ClassId) (ws : va_W) (ad : Nat → Nat) (t : Nat) (pn : Nat) (rl : Int) (q : Nat) (pi : Nat → Nat) (hno : ws[30 + 3 * t]? = some (ad (30 + 3 * t), nO ad t pn rl)) (hpi : ws[31 + 3 * t]? = some (ad (31 + 3 * t), iN K 5 pi)) (hpn : pn ≤ 5) (hpib : ∀ k, pi k < 64) (hq : q < 64) : MPi l yX3_hasPin wsX3_hasPin ({ frames := 0, cells := 0, slots := 0, locals := 0 }) D K ws [.ref (ad (30 + 3 * t)), .int (iZ ((q : Nat) : Int))] (fun r => r = (iZ (bZ (anyB (fun k => decide (pi k = q)) pn)))) := by
  refine q_entPi RX3 [(0, .ref (ad (30 + 3 * t))), (1, .int (iZ ((q : Nat) : Int)))] (by decide) rfl rfl (Nat.le_of_ble_eq_true rfl) rfl ?_
  intro p e s m args below meth c hc hr hlk
  have i3 : ∀ w ∈ u_ws RX3 TX3 4, w ∈ wsX3_hasPin := by decide +kernel
  have f19 := hc.1.2.2.2.2 (.fieldLink RX3 19 "GlobalRoutes$Net" "pinCount" "I") (by decide +kernel)
  have f9 := hc.1.2.2.2.2 (.fieldLink RX3 9 "GlobalRoutes$Net" "pins" "[I") (by decide +kernel)
  refine q_iconstN hc 0 dX3_hasPin_0 rfl ?_
  refine q_istore_n hc [(2, .int (iZ ((0 : Nat) : Int))), (0, .ref (ad (30 + 3 * t))), (1, .int (iZ ((q : Nat) : Int)))] dX3_hasPin_1 rfl (by decide) rfl ?_
  refine V.sub [1, 2, 0] rfl ?_
  refine V.loopP (α := Nat) (fun x => pn - x) (fun x => (x ≤ pn) ∧ (anyB (fun k => decide (pi k = q)) x = false)) (fun x => [(0, .ref (ad (30 + 3 * t))), (1, .int (iZ ((q : Nat) : Int))), (2, .int (iZ ((x : Nat) : Int)))]) 0 ⟨(Nat.zero_le _), (rfl)⟩ rfl ?_
  intro i ih2 hI
  try dsimp only at ih2 hI ⊢
  obtain ⟨hi0, ha⟩ := hI
  refine q_iload_n hc 2 dX3_hasPin_2 rfl ?_
  refine q_aload_n hc 0 dX3_hasPin_3 rfl ?_
  refine q_get hc (30 + 3 * t) 2 i3 hno rfl (by decide) f19 rfl rfl dX3_hasPin_4 ?_
  refine q_icmpN_ge hc 28 dX3_hasPin_7 (by decide) (by omega) (by omega) (fun c2 => ?_) (fun c2 => ?_)
  · refine q_iconstN hc 0 dX3_hasPin_28 rfl ?_
    exact q_zretP (b := false) hc (by rw [show pn = i by omega, ha]) hr hlk dX3_hasPin_29
  · refine q_aload_n hc 0 dX3_hasPin_10 rfl ?_
    refine q_get hc (30 + 3 * t) 0 i3 hno rfl (by decide) f9 rfl rfl dX3_hasPin_11 ?_
    refine q_iload_n hc 2 dX3_hasPin_14 rfl ?_
    refine q_ialdN (j := i) hc (31 + 3 * t) hpi rfl (by omega) (by omega) dX3_hasPin_15 ?_
    have hb3 := hpib i
    refine q_iload_n hc 1 dX3_hasPin_16 rfl ?_
    refine q_icmpN_ne hc 22 dX3_hasPin_17 (by decide) (by omega) (by omega) (fun c4 => ?_) (fun c4 => ?_)
    · refine q_iincN (q := 2) hc 1 [(2, .int (iZ ((i + 1 : Nat) : Int))), (0, .ref (ad (30 + 3 * t))), (1, .int (iZ ((q : Nat) : Int)))] dX3_hasPin_22 rfl rfl (by decide) rfl ?_
      refine q_goto hc 2 dX3_hasPin_25 (by decide) ?_
      refine V.sub [1, 2, 0] rfl ?_
      exact ih2 (i + 1) (by omega) ⟨(by omega), (by rw [anyB_s, ha]; simp; omega)⟩
    · refine q_iconstN hc 1 dX3_hasPin_20 rfl ?_
      exact q_zretP (b := true) hc (by rw [anyB_of (i := i) (by omega) (decide_eq_true (by omega))]) hr hlk dX3_hasPin_21

set_option maxRecDepth 100000 in
set_option maxHeartbeats 4000000 in
theorem c_X3_addPin (l : Launch) (D : va_G) (K : Nat → ClassId) (ws : va_W) (ad : Nat → Nat) (t : Nat) (pn : Nat) (rl : Int) (q : Nat) (pi : Nat → Nat) (hno : ws[30 + 3 * t]? = some (ad (30 + 3 * t), nO ad t pn rl)) (hpi : ws[31 + 3 * t]? = some (ad (31 + 3 * t), iN K 5 pi)) (hpn : pn < 5) : MMv l yX3_addPin wsX3_addPin ({ frames := 0, cells := 0, slots := 0, locals := 0 }) D K ws [.ref (ad (30 + 3 * t)), .int (iZ ((q : Nat) : Int))] (fun u => (u[31 + 3 * t]? = some (ad (31 + 3 * t), iN K 5 (va_up pi pn q))) ∧ (u[30 + 3 * t]? = some (ad (30 + 3 * t), nO ad t (pn + 1) rl)) ∧ (Fr (fun j => j = 31 + 3 * t ∨ j = 30 + 3 * t) ws u)) := by
  refine q_entMv RX3 [(0, .ref (ad (30 + 3 * t))), (1, .int (iZ ((q : Nat) : Int)))] (by decide) rfl rfl (Nat.le_of_ble_eq_true rfl) rfl ?_
  intro p e s m args below meth c hc hr hlk
  have i3 : ∀ w ∈ u_ws RX3 TX3 4, w ∈ wsX3_addPin := by decide +kernel
  have f19 := hc.1.2.2.2.2 (.fieldLink RX3 19 "GlobalRoutes$Net" "pinCount" "I") (by decide +kernel)
  have f9 := hc.1.2.2.2.2 (.fieldLink RX3 9 "GlobalRoutes$Net" "pins" "[I") (by decide +kernel)
  have fr0 : Fr (fun j => j = 31 + 3 * t ∨ j = 30 + 3 * t) ws ws := Fr.rfl
  refine q_aload_n hc 0 dX3_addPin_0 rfl ?_
  refine q_get hc (30 + 3 * t) 2 i3 hno rfl (by decide) f19 rfl rfl dX3_addPin_1 ?_
  refine q_iconstN hc 5 dX3_addPin_4 rfl ?_
  refine q_icmpN_ge hc 28 dX3_addPin_5 (by decide) (by omega) (by omega) (fun c1 => ?_) (fun c1 => ?_)
  · exact absurd c1 (by omega)
  · refine q_aload_n hc 0 dX3_addPin_8 rfl ?_
    refine q_get hc (30 + 3 * t) 0 i3 hno rfl (by decide) f9 rfl rfl dX3_addPin_9 ?_
    refine q_aload_n hc 0 dX3_addPin_12 rfl ?_
    refine q_get hc (30 + 3 * t) 2 i3 hno rfl (by decide) f19 rfl rfl dX3_addPin_13 ?_
    refine q_iload_n hc 1 dX3_addPin_16 rfl ?_
    refine q_iastN (j := pn) (x := q) hc (31 + 3 * t) hpi rfl (by omega) (by omega) dX3_addPin_17 (fun u2 hn' hf' => ?_)
    have hq3 : u2[31 + 3 * t]? = some (ad (31 + 3 * t), iN K 5 (va_up pi pn q)) := hn'
    have hq4 := (hf' (30 + 3 * t) (by omega)).trans hno
    have fr5 := Fr.one hf'
    refine q_aload_n hc 0 dX3_addPin_18 rfl ?_
    refine q_dup hc dX3_addPin_19 rfl ?_
    refine q_get hc (30 + 3 * t) 2 i3 hq4 rfl (by decide) f19 rfl rfl dX3_addPin_20 ?_
    refine q_iconstN hc 1 dX3_addPin_23 rfl ?_
    refine q_iaddN hc dX3_addPin_24 ?_
    refine q_put (ty := .int) hc (30 + 3 * t) 2 i3 tyX3 tyX3_ok nmX3 hq4 rfl (by decide) f19 rfl rfl (by decide +kernel) rfl rfl (Nat.le_of_ble_eq_true rfl) rfl dX3_addPin_25 (fun u6 hn' hf' => ?_)
    have hq7 : u6[30 + 3 * t]? = some (ad (30 + 3 * t), .inr (3, [.ref (ad (31 + 3 * t)), .ref (ad (32 + 3 * t)), .int (iZ ((pn + 1 : Nat) : Int)), .int (iZ rl)])) := hn'
    have hq8 := (hf' (31 + 3 * t) (by omega)).trans hq3
    have fr9 := Fr.one hf'
    exact q_vretM hc (⟨hq8, hq7, ((fr0.trans fr5 (fun _ _ => by omega)).trans fr9 (fun _ _ => by omega))⟩) hr hlk dX3_addPin_28

set_option maxRecDepth 100000 in
set_option maxHeartbeats 4000000 in
theorem c_X3_clearRoute (l : Launch) (D : va_G) (K : Nat → ClassId) (ws : va_W) (ad : Nat → Nat) (t : Nat) (pn : Nat) (rl : Int) (n : Nat) (ro : Nat → Bool) (hno : ws[30 + 3 * t]? = some (ad (30 + 3 * t), nO ad t pn rl)) (hro : ws[32 + 3 * t]? = some (ad (32 + 3 * t), zA K (2 * n) ro)) (hn : n ≤ 64) : MMv l yX3_clearRoute wsX3_clearRoute ({ frames := 0, cells := 0, slots := 0, locals := 0 }) D K ws [.ref (ad (30 + 3 * t))] (fun u => (u[32 + 3 * t]? = some (ad (32 + 3 * t), zA K (2 * n) (fun _ => false))) ∧ (u[30 + 3 * t]? = some (ad (30 + 3 * t), nO ad t pn (-1))) ∧ (Fr (fun j => j = 32 + 3 * t ∨ j = 30 + 3 * t) ws u)) := by
  refine q_entMv RX3 [(0, .ref (ad (30 + 3 * t)))] (by decide) rfl rfl (Nat.le_of_ble_eq_true rfl) rfl ?_
  intro p e s m args below meth c hc hr hlk
  have i3 : ∀ w ∈ u_ws RX3 TX3 4, w ∈ wsX3_clearRoute := by decide +kernel
  have f15 := hc.1.2.2.2.2 (.fieldLink RX3 15 "GlobalRoutes$Net" "route" "[Z") (by decide +kernel)
  have f23 := hc.1.2.2.2.2 (.fieldLink RX3 23 "GlobalRoutes$Net" "routeLength" "I") (by decide +kernel)
  have fr0 : Fr (fun j => j = 32 + 3 * t ∨ j = 30 + 3 * t) ws ws := Fr.rfl
  refine q_iconstN hc 0 dX3_clearRoute_0 rfl ?_
  refine q_istore_n hc [(1, .int (iZ ((0 : Nat) : Int))), (0, .ref (ad (30 + 3 * t)))] dX3_clearRoute_1 rfl (by decide) rfl ?_
  refine V.sub [1, 0] rfl ?_
  refine V.loop (α := Nat × (Nat → Bool)) (fun x => 2 * n - x.1) (fun x u => (x.1 ≤ 2 * n) ∧ (∀ k, x.2 k = if k < x.1 then false else ro k) ∧ (u[32 + 3 * t]? = some (ad (32 + 3 * t), zA K (2 * n) x.2)) ∧ (Fr (fun j => j = 32 + 3 * t) ws u)) (fun x => [(0, .ref (ad (30 + 3 * t))), (1, .int (iZ ((x.1 : Nat) : Int)))]) (0, ro) ⟨(Nat.zero_le _), (fun k => by simp), (hro), (Fr.rfl)⟩ rfl ?_
  intro x ih2 u1 hI
  obtain ⟨i, f⟩ := x
  try dsimp only at ih2 hI ⊢
  obtain ⟨hi0, hf, hq2, fr3⟩ := hI
  have hq4 := (fr3.at (30 + 3 * t) (by omega)).trans hno
  refine q_iload_n hc 1 dX3_clearRoute_2 rfl ?_
  refine q_aload_n hc 0 dX3_clearRoute_3 rfl ?_
  refine q_get hc (30 + 3 * t) 1 i3 hq4 rfl (by decide) f15 rfl rfl dX3_clearRoute_4 ?_
  refine q_alen hc (32 + 3 * t) 1 hq2 rfl dX3_clearRoute_7 ?_
  refine q_icmpN_ge hc 24 dX3_clearRoute_8 (by decide) (by omega) (by omega) (fun c5 => ?_) (fun c5 => ?_)
  · refine q_norm_zA (g := fun _ => false) hc (32 + 3 * t) hq2 (fun k hk => by rw [hf k, if_pos (by omega)]) (fun u6 hn' hf' => ?_)
    have hq7 : u6[32 + 3 * t]? = some (ad (32 + 3 * t), zA K (2 * n) (fun _ => false)) := hn'
    have hq8 := (hf' (30 + 3 * t) (by omega)).trans hq4
    have fr9 := Fr.one hf'
    refine q_aload_n hc 0 dX3_clearRoute_24 rfl ?_
    refine q_iconst hc dX3_clearRoute_25 ?_
    refine q_put (ty := .int) hc (30 + 3 * t) 3 i3 tyX3 tyX3_ok nmX3 hq8 rfl (by decide) f23 rfl rfl (by decide +kernel) rfl rfl (Nat.le_of_ble_eq_true rfl) rfl dX3_clearRoute_26 (fun u10 hn' hf' => ?_)
    have hq11 : u10[30 + 3 * t]? = some (ad (30 + 3 * t), .inr (3, [.ref (ad (31 + 3 * t)), .ref (ad (32 + 3 * t)), .int (iZ ((pn : Nat) : Int)), .int (iZ (-1))])) := hn'
    have hq12 := (hf' (32 + 3 * t) (by omega)).trans hq7
    have fr13 := Fr.one hf'
    exact q_vretM hc (⟨hq12, hq11, (((fr0.trans fr3 (fun _ _ => by omega)).trans fr9 (fun _ _ => by omega)).trans fr13 (fun _ _ => by omega))⟩) hr hlk dX3_clearRoute_29
  · refine q_aload_n hc 0 dX3_clearRoute_11 rfl ?_
    refine q_get hc (30 + 3 * t) 1 i3 hq4 rfl (by decide) f15 rfl rfl dX3_clearRoute_12 ?_
    refine q_iload_n hc 1 dX3_clearRoute_15 rfl ?_
    refine q_iconstN hc 0 dX3_clearRoute_16 rfl ?_
    refine q_zast (j := i) (x := false) hc (32 + 3 * t) hq2 rfl (by omega) (by omega) dX3_clearRoute_17 (fun u14 hn' hf' => ?_)
    have hq15 : u14[32 + 3 * t]? = some (ad (32 + 3 * t), zA K (2 * n) (va_up f i false)) := hn'
    have hq16 := (hf' (30 + 3 * t) (by omega)).trans hq4
    have fr17 := Fr.one hf'
    refine q_iincN (q := 1) hc 1 [(1, .int (iZ ((i + 1 : Nat) : Int))), (0, .ref (ad (30 + 3 * t)))] dX3_clearRoute_18 rfl rfl (by decide) rfl ?_
    refine q_goto hc 2 dX3_clearRoute_21 (by decide) ?_
    refine V.sub [1, 0] rfl ?_
    exact ih2 (i + 1, va_up f i false) _ (by omega) ⟨(by omega), (upd_hf (g := fun _ => false) hf), (hq15), ((fr3.trans fr17 (fun _ _ => by omega)))⟩
