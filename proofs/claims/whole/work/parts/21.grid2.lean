
set_option maxRecDepth 100000 in
set_option maxHeartbeats 4000000 in
theorem c_X0_hasBorder (l : Launch) (D : va_G) (K : Nat → ClassId) (ws : va_W) (ad : Nat → Nat) (x y : Int) (d : Bool) (w h n : Nat) (h1 : ws[1]? = some (ad 1, gO ad w h n)) (hx : -2147483648 ≤ x ∧ x < 2147483648) (hy : -2147483648 ≤ y ∧ y < 2147483648) (hn : n ≤ 64) (hw : 0 < w ∧ w ≤ 8 ∧ h ≤ 8) : MPi l yX0_hasBorder wsX0_hasBorder ({ frames := 1, cells := 0, slots := 0, locals := 22 }) D K ws [.ref (ad 1), .int (iZ x), .int (iZ y), .int (iZ (bZ d))] (fun r => r = (iZ (bZ (hB w h x y d)))) := by
  refine q_entPi RX0 [(0, .ref (ad 1)), (1, .int (iZ x)), (2, .int (iZ y)), (3, .int (iZ (bZ d)))] (by decide) rfl rfl (Nat.le_of_ble_eq_true rfl) rfl ?_
  intro p e s m args below meth c hc hr hlk
  have i0 : ∀ w ∈ u_ws RX0 TX0 9, w ∈ wsX0_hasBorder := by decide +kernel
  have f9 := hc.1.2.2.2.2 (.fieldLink RX0 9 "GlobalRoutes$Grid" "width" "I") (by decide +kernel)
  have f15 := hc.1.2.2.2.2 (.fieldLink RX0 15 "GlobalRoutes$Grid" "height" "I") (by decide +kernel)
  refine q_aload_n hc 0 dX0_hasBorder_0 rfl ?_
  refine q_iload_n hc 1 dX0_hasBorder_1 rfl ?_
  refine q_iload_n hc 2 dX0_hasBorder_2 rfl ?_
  refine q_callPz (As := [.int (iZ x), .int (iZ y)]) (rest := []) hc (c_X0_hasCell l D K ws ad x y w h n h1 hx hy hn hw) (cwV 2 hc.1.2.2.2.2 gX0_hasBorder_X0_hasCell rfl rfl rfl (by decide +kernel) ⟨Nat.le_of_ble_eq_true rfl, Nat.le_of_ble_eq_true rfl⟩) 1 h1 rfl rfl rfl (by decide) dX0_hasBorder_3 ⟨Nat.zero_le _, Nat.zero_le _⟩ ?_
  refine q_ifz_eq hc 40 dX0_hasBorder_6 (by decide) (fun c3 => ?_) (fun c3 => ?_)
  · have c0 := of_decide_eq_false c3
    refine q_iconstN hc 0 dX0_hasBorder_40 rfl ?_
    exact q_zretP (b := false) hc (by rw [hB_no c0]) hr hlk dX0_hasBorder_41
  · have c0 := of_decide_eq_true c3
    refine q_iload_n hc 3 dX0_hasBorder_9 rfl ?_
    refine q_ifz_eq hc 26 dX0_hasBorder_10 (by decide) (fun c4 => ?_) (fun c4 => ?_)
    · subst c4
      refine q_iload_n hc 1 dX0_hasBorder_26 rfl ?_
      refine q_aload_n hc 0 dX0_hasBorder_27 rfl ?_
      refine q_get hc 1 0 i0 h1 rfl (by decide) f9 rfl rfl dX0_hasBorder_28 ?_
      refine q_iconstN hc 1 dX0_hasBorder_31 rfl ?_
      refine q_isub hc dX0_hasBorder_32 ?_
      refine q_icmp_ge hc 40 dX0_hasBorder_33 (by decide) (by omega) (by omega) (fun c5 => ?_) (fun c5 => ?_)
      · refine q_iconstN hc 0 dX0_hasBorder_40 rfl ?_
        exact q_zretP (b := false) hc (congrArg (fun b => iZ (bZ b)) (decide_eq_false (by omega)).symm) hr hlk dX0_hasBorder_41
      · refine q_iconstN hc 1 dX0_hasBorder_36 rfl ?_
        refine q_goto hc 41 dX0_hasBorder_37 (by decide) ?_
        exact q_zretP (b := true) hc (congrArg (fun b => iZ (bZ b)) (decide_eq_true (by omega)).symm) hr hlk dX0_hasBorder_41
    · subst c4
      refine q_iload_n hc 2 dX0_hasBorder_13 rfl ?_
      refine q_aload_n hc 0 dX0_hasBorder_14 rfl ?_
      refine q_get hc 1 1 i0 h1 rfl (by decide) f15 rfl rfl dX0_hasBorder_15 ?_
      refine q_iconstN hc 1 dX0_hasBorder_18 rfl ?_
      refine q_isub hc dX0_hasBorder_19 ?_
      refine q_icmp_ge hc 40 dX0_hasBorder_20 (by decide) (by omega) (by omega) (fun c6 => ?_) (fun c6 => ?_)
      · refine q_iconstN hc 0 dX0_hasBorder_40 rfl ?_
        exact q_zretP (b := false) hc (congrArg (fun b => iZ (bZ b)) (decide_eq_false (by omega)).symm) hr hlk dX0_hasBorder_41
      · refine q_goto hc 36 dX0_hasBorder_23 (by decide) ?_
        refine q_iconstN hc 1 dX0_hasBorder_36 rfl ?_
        refine q_goto hc 41 dX0_hasBorder_37 (by decide) ?_
        exact q_zretP (b := true) hc (congrArg (fun b => iZ (bZ b)) (decide_eq_true (by omega)).symm) hr hlk dX0_hasBorder_41

set_option maxRecDepth 100000 in
set_option maxHeartbeats 4000000 in
theorem c_X0_borderAt (l : Launch) (D : va_G) (K : Nat → ClassId) (ws : va_W) (ad : Nat → Nat) (x y : Nat) (d : Bool) (w h n : Nat) (h1 : ws[1]? = some (ad 1, gO ad w h n)) : MPi l yX0_borderAt wsX0_borderAt ({ frames := 1, cells := 0, slots := 0, locals := 22 }) D K ws [.ref (ad 1), .int (iZ ((x : Nat) : Int)), .int (iZ ((y : Nat) : Int)), .int (iZ (bZ d))] (fun r => r = (iZ ((2 * (x + w * y) + bN d : Nat) : Int))) := by
  refine q_entPi RX0 [(0, .ref (ad 1)), (1, .int (iZ ((x : Nat) : Int))), (2, .int (iZ ((y : Nat) : Int))), (3, .int (iZ (bZ d)))] (by decide) rfl rfl (Nat.le_of_ble_eq_true rfl) rfl ?_
  intro p e s m args below meth c hc hr hlk
  refine q_iconstN hc 2 dX0_borderAt_0 rfl ?_
  refine q_aload_n hc 0 dX0_borderAt_1 rfl ?_
  refine q_iload_n hc 1 dX0_borderAt_2 rfl ?_
  refine q_iload_n hc 2 dX0_borderAt_3 rfl ?_
  refine q_callPn (As := [.int (iZ ((x : Nat) : Int)), .int (iZ ((y : Nat) : Int))]) (rest := [.int (iZ ((2 : Nat) : Int))]) hc (c_X0_cellAt l D K ws ad x y w h n h1 ) (cwV 2 hc.1.2.2.2.2 gX0_borderAt_X0_cellAt rfl rfl rfl (by decide +kernel) ⟨Nat.le_of_ble_eq_true rfl, Nat.le_of_ble_eq_true rfl⟩) 1 h1 rfl rfl rfl (by simp [Value.category]) dX0_borderAt_4 ⟨Nat.zero_le _, Nat.zero_le _⟩ ?_
  refine q_imulN hc dX0_borderAt_7 ?_
  refine q_iload_n hc 3 dX0_borderAt_8 rfl ?_
  refine q_ifz_eq hc 16 dX0_borderAt_9 (by decide) (fun c3 => ?_) (fun c3 => ?_)
  · subst c3
    refine q_iconstN hc 0 dX0_borderAt_16 rfl ?_
    refine q_iaddN hc dX0_borderAt_17 ?_
    exact q_iretP (z := ((2 * (x + w * y) + 0 : Nat) : Int)) hc (rfl) hr hlk dX0_borderAt_18
  · subst c3
    refine q_iconstN hc 1 dX0_borderAt_12 rfl ?_
    refine q_goto hc 17 dX0_borderAt_13 (by decide) ?_
    refine q_iaddN hc dX0_borderAt_17 ?_
    exact q_iretP (z := ((2 * (x + w * y) + 1 : Nat) : Int)) hc (rfl) hr hlk dX0_borderAt_18

set_option maxRecDepth 100000 in
set_option maxHeartbeats 4000000 in
theorem c_X0_isAnyOver (l : Launch) (D : va_G) (K : Nat → ClassId) (ws : va_W) (ad : Nat → Nat) (t : Nat) (w h n : Nat) (cap us : Nat → Nat) (ro : Nat → Bool) (h1 : ws[1]? = some (ad 1, gO ad w h n)) (h2 : ws[2]? = some (ad 2, iN K (2 * n) cap)) (h3 : ws[3]? = some (ad 3, iN K (2 * n) us)) (hro : ws[32 + 3 * t]? = some (ad (32 + 3 * t), zA K (2 * n) ro)) (hn : n ≤ 64) (hcap : ∀ k, k < 2 * n → cap k ≤ 20) (hus : ∀ k, k < 2 * n → us k ≤ 12) : MPi l yX0_isAnyOver wsX0_isAnyOver ({ frames := 2, cells := 0, slots := 0, locals := 42 }) D K ws [.ref (ad 1), .ref (ad (32 + 3 * t))] (fun r => r = (iZ (bZ (anyB (fun k => ro k && decide (0 < us k - cap k)) (2 * n))))) := by
  refine q_entPi RX0 [(0, .ref (ad 1)), (1, .ref (ad (32 + 3 * t)))] (by decide) rfl rfl (Nat.le_of_ble_eq_true rfl) rfl ?_
  intro p e s m args below meth c hc hr hlk
  have i0 : ∀ w ∈ u_ws RX0 TX0 9, w ∈ wsX0_isAnyOver := by decide +kernel
  have f21 := hc.1.2.2.2.2 (.fieldLink RX0 21 "GlobalRoutes$Grid" "borders" "I") (by decide +kernel)
  refine q_iconstN hc 0 dX0_isAnyOver_0 rfl ?_
  refine q_istore_n hc [(2, .int (iZ ((0 : Nat) : Int))), (0, .ref (ad 1)), (1, .ref (ad (32 + 3 * t)))] dX0_isAnyOver_1 rfl (by decide) rfl ?_
  refine V.sub [1, 2, 0] rfl ?_
  refine V.loopP (α := Nat) (fun x => 2 * n - x) (fun x => (x ≤ 2 * n) ∧ (anyB (fun k => ro k && decide (0 < us k - cap k)) x = false)) (fun x => [(0, .ref (ad 1)), (1, .ref (ad (32 + 3 * t))), (2, .int (iZ ((x : Nat) : Int)))]) 0 ⟨(Nat.zero_le _), (rfl)⟩ rfl ?_
  intro i ih2 hI
  try dsimp only at ih2 hI ⊢
  obtain ⟨hi0, ha⟩ := hI
  refine q_iload_n hc 2 dX0_isAnyOver_2 rfl ?_
  refine q_aload_n hc 0 dX0_isAnyOver_3 rfl ?_
  refine q_get hc 1 3 i0 h1 rfl (by decide) f21 rfl rfl dX0_isAnyOver_4 ?_
  refine q_icmpN_ge hc 32 dX0_isAnyOver_7 (by decide) (by omega) (by omega) (fun c2 => ?_) (fun c2 => ?_)
  · refine q_iconstN hc 0 dX0_isAnyOver_32 rfl ?_
    exact q_zretP (b := false) hc (by rw [show 2 * n = i by omega, ha]) hr hlk dX0_isAnyOver_33
  · refine q_aload_n hc 1 dX0_isAnyOver_10 rfl ?_
    refine q_iload_n hc 2 dX0_isAnyOver_11 rfl ?_
    refine q_zald (j := i) hc (32 + 3 * t) hro rfl (by omega) (by omega) dX0_isAnyOver_12 ?_
    refine q_ifz_eq hc 26 dX0_isAnyOver_13 (by decide) (fun c3 => ?_) (fun c3 => ?_)
    · refine q_iincN (q := 2) hc 1 [(2, .int (iZ ((i + 1 : Nat) : Int))), (0, .ref (ad 1)), (1, .ref (ad (32 + 3 * t)))] dX0_isAnyOver_26 rfl rfl (by decide) rfl ?_
      refine q_goto hc 2 dX0_isAnyOver_29 (by decide) ?_
      refine V.sub [1, 2, 0] rfl ?_
      exact ih2 (i + 1) (by omega) ⟨(by omega), (by rw [anyB_s, ha]; simp_all; try omega)⟩
    · refine q_aload_n hc 0 dX0_isAnyOver_16 rfl ?_
      refine q_iload_n hc 2 dX0_isAnyOver_17 rfl ?_
      refine q_callPn (As := [.int (iZ ((i : Nat) : Int))]) (rest := []) hc (c_X0_excess l D K ws ad i w h n cap us h1 h2 h3 (by omega) hn hcap hus) (cwV 1 hc.1.2.2.2.2 gX0_isAnyOver_X0_excess rfl rfl rfl (by decide +kernel) ⟨Nat.le_of_ble_eq_true rfl, Nat.le_of_ble_eq_true rfl⟩) 1 h1 rfl rfl rfl (by decide) dX0_isAnyOver_18 ⟨Nat.zero_le _, Nat.zero_le _⟩ ?_
      have hb9 := hus i (by omega)
      refine q_if_le hc 26 dX0_isAnyOver_21 (by decide) (by omega) (fun c6 => ?_) (fun c6 => ?_)
      · refine q_iincN (q := 2) hc 1 [(2, .int (iZ ((i + 1 : Nat) : Int))), (0, .ref (ad 1)), (1, .ref (ad (32 + 3 * t)))] dX0_isAnyOver_26 rfl rfl (by decide) rfl ?_
        refine q_goto hc 2 dX0_isAnyOver_29 (by decide) ?_
        refine V.sub [1, 2, 0] rfl ?_
        exact ih2 (i + 1) (by omega) ⟨(by omega), (by rw [anyB_s, ha]; simp_all; try omega)⟩
      · refine q_iconstN hc 1 dX0_isAnyOver_24 rfl ?_
        exact q_zretP (b := true) hc (by rw [anyB_of (i := i) (by omega) (by simp; exact ⟨c3, by omega⟩)]) hr hlk dX0_isAnyOver_25

set_option maxRecDepth 100000 in
set_option maxHeartbeats 4000000 in
theorem c_X0_addUses (l : Launch) (D : va_G) (K : Nat → ClassId) (ws : va_W) (ad : Nat → Nat) (t : Nat) (w h n : Nat) (us us' : Nat → Nat) (ro : Nat → Bool) (ch : Int) (h1 : ws[1]? = some (ad 1, gO ad w h n)) (h3 : ws[3]? = some (ad 3, iN K (2 * n) us)) (hro : ws[32 + 3 * t]? = some (ad (32 + 3 * t), zA K (2 * n) ro)) (hn : n ≤ 64) (hch : -1 ≤ ch ∧ ch ≤ 1) (hu' : ∀ k, k < 2 * n → ((us' k : Nat) : Int) = ((us k : Nat) : Int) + (if ro k = true then ch else 0)) : MMv l yX0_addUses wsX0_addUses ({ frames := 0, cells := 0, slots := 0, locals := 0 }) D K ws [.ref (ad 1), .ref (ad (32 + 3 * t)), .int (iZ ch)] (fun u => (u[3]? = some (ad 3, iN K (2 * n) us')) ∧ (Fr (fun j => j = 3) ws u)) := by
  refine q_entMv RX0 [(0, .ref (ad 1)), (1, .ref (ad (32 + 3 * t))), (2, .int (iZ ch))] (by decide) rfl rfl (Nat.le_of_ble_eq_true rfl) rfl ?_
  intro p e s m args below meth c hc hr hlk
  have i0 : ∀ w ∈ u_ws RX0 TX0 9, w ∈ wsX0_addUses := by decide +kernel
  have f21 := hc.1.2.2.2.2 (.fieldLink RX0 21 "GlobalRoutes$Grid" "borders" "I") (by decide +kernel)
  have f28 := hc.1.2.2.2.2 (.fieldLink RX0 28 "GlobalRoutes$Grid" "uses" "[I") (by decide +kernel)
  have fr0 : Fr (fun j => j = 3) ws ws := Fr.rfl
  refine q_iconstN hc 0 dX0_addUses_0 rfl ?_
  refine q_istore_n hc [(3, .int (iZ ((0 : Nat) : Int))), (0, .ref (ad 1)), (1, .ref (ad (32 + 3 * t))), (2, .int (iZ ch))] dX0_addUses_1 rfl (by decide) rfl ?_
  refine V.sub [1, 2, 3, 0] rfl ?_
  refine V.loop (α := Nat × (Nat → Nat)) (fun x => 2 * n - x.1) (fun x u => (x.1 ≤ 2 * n) ∧ (∀ k, x.2 k = if k < x.1 then us' k else us k) ∧ (u[3]? = some (ad 3, iN K (2 * n) x.2)) ∧ (Fr (fun j => j = 3) ws u)) (fun x => [(0, .ref (ad 1)), (1, .ref (ad (32 + 3 * t))), (2, .int (iZ ch)), (3, .int (iZ ((x.1 : Nat) : Int)))]) (0, us) ⟨(Nat.zero_le _), (fun k => by simp), (h3), (Fr.rfl)⟩ rfl ?_
  intro x ih2 u1 hI
  obtain ⟨i, f⟩ := x
  try dsimp only at ih2 hI ⊢
  obtain ⟨hi0, hf, hq2, fr3⟩ := hI
  have hq4 := (fr3.at 1 (by omega)).trans h1
  have hq5 := (fr3.at (32 + 3 * t) (by omega)).trans hro
  refine q_iload_n hc 3 dX0_addUses_2 rfl ?_
  refine q_aload_n hc 0 dX0_addUses_3 rfl ?_
  refine q_get hc 1 3 i0 hq4 rfl (by decide) f21 rfl rfl dX0_addUses_4 ?_
  refine q_icmpN_ge hc 32 dX0_addUses_7 (by decide) (by omega) (by omega) (fun c6 => ?_) (fun c6 => ?_)
  · refine q_norm_iN (g := us') hc 3 hq2 (fun k hk => by rw [hf k, if_pos (by omega)]) (fun u7 hn' hf' => ?_)
    have hq8 : u7[3]? = some (ad 3, iN K (2 * n) us') := hn'
    have hq9 := (hf' 1 (by omega)).trans hq4
    have hq10 := (hf' (32 + 3 * t) (by omega)).trans hq5
    have fr11 := Fr.one hf'
    exact q_vretM hc (⟨hq8, ((fr0.trans fr3 (fun _ _ => by omega)).trans fr11 (fun _ _ => by omega))⟩) hr hlk dX0_addUses_32
  · refine q_aload_n hc 1 dX0_addUses_10 rfl ?_
    refine q_iload_n hc 3 dX0_addUses_11 rfl ?_
    refine q_zald (j := i) hc (32 + 3 * t) hq5 rfl (by omega) (by omega) dX0_addUses_12 ?_
    refine q_ifz_eq hc 26 dX0_addUses_13 (by decide) (fun c12 => ?_) (fun c12 => ?_)
    · refine q_iincN (q := 3) hc 1 [(3, .int (iZ ((i + 1 : Nat) : Int))), (0, .ref (ad 1)), (1, .ref (ad (32 + 3 * t))), (2, .int (iZ ch))] dX0_addUses_26 rfl rfl (by decide) rfl ?_
      refine q_goto hc 2 dX0_addUses_29 (by decide) ?_
      refine V.sub [1, 2, 3, 0] rfl ?_
      exact ih2 (i + 1, f) _ (by omega) ⟨(by omega), (upd_hf0 hf (by have h9 := hu' i (by omega); rw [c12] at h9; simp at h9; omega)), (hq2), (fr3)⟩
    · refine q_aload_n hc 0 dX0_addUses_16 rfl ?_
      refine q_get hc 1 5 i0 hq4 rfl (by decide) f28 rfl rfl dX0_addUses_17 ?_
      refine q_iload_n hc 3 dX0_addUses_20 rfl ?_
      refine q_dup2 hc dX0_addUses_21 rfl rfl ?_
      refine q_ialdN (j := i) hc 3 hq2 rfl (by omega) (by omega) dX0_addUses_22 ?_
      refine q_iload_n hc 2 dX0_addUses_23 rfl ?_
      refine q_iadd hc dX0_addUses_24 ?_
      refine V.topi (show _ = ((us' i : Nat) : Int) from by have h9 := hu' i (by omega); rw [c12] at h9; have h8 := hf i; simp at h8 h9; omega) ?_
      refine q_iastN (j := i) (x := us' i) hc 3 hq2 rfl (by omega) (by omega) dX0_addUses_25 (fun u13 hn' hf' => ?_)
      have hq14 : u13[3]? = some (ad 3, iN K (2 * n) (va_up f i (us' i))) := hn'
      have hq15 := (hf' 1 (by omega)).trans hq4
      have hq16 := (hf' (32 + 3 * t) (by omega)).trans hq5
      have fr17 := Fr.one hf'
      refine q_iincN (q := 3) hc 1 [(3, .int (iZ ((i + 1 : Nat) : Int))), (0, .ref (ad 1)), (1, .ref (ad (32 + 3 * t))), (2, .int (iZ ch))] dX0_addUses_26 rfl rfl (by decide) rfl ?_
      refine q_goto hc 2 dX0_addUses_29 (by decide) ?_
      refine V.sub [1, 2, 3, 0] rfl ?_
      exact ih2 (i + 1, va_up f i (us' i)) _ (by omega) ⟨(by omega), (upd_hf hf), (hq14), ((fr3.trans fr17 (fun _ _ => by omega)))⟩

set_option maxRecDepth 100000 in
set_option maxHeartbeats 4000000 in
theorem c_X0_rememberOver (l : Launch) (D : va_G) (K : Nat → ClassId) (ws : va_W) (ad : Nat → Nat) (w h n : Nat) (cap us hi : Nat → Nat) (h1 : ws[1]? = some (ad 1, gO ad w h n)) (h2 : ws[2]? = some (ad 2, iN K (2 * n) cap)) (h3 : ws[3]? = some (ad 3, iN K (2 * n) us)) (h4 : ws[4]? = some (ad 4, iN K (2 * n) hi)) (hn : n ≤ 64) (hcap : ∀ k, k < 2 * n → cap k ≤ 20) (hus : ∀ k, k < 2 * n → us k ≤ 12) : MMv l yX0_rememberOver wsX0_rememberOver ({ frames := 2, cells := 0, slots := 0, locals := 42 }) D K ws [.ref (ad 1)] (fun u => (u[4]? = some (ad 4, iN K (2 * n) (fun k => hi k + (if 0 < us k - cap k then 1 else 0)))) ∧ (Fr (fun j => j = 4) ws u)) := by
  refine q_entMv RX0 [(0, .ref (ad 1))] (by decide) rfl rfl (Nat.le_of_ble_eq_true rfl) rfl ?_
  intro p e s m args below meth c hc hr hlk
  have i0 : ∀ w ∈ u_ws RX0 TX0 9, w ∈ wsX0_rememberOver := by decide +kernel
  have f21 := hc.1.2.2.2.2 (.fieldLink RX0 21 "GlobalRoutes$Grid" "borders" "I") (by decide +kernel)
  have f31 := hc.1.2.2.2.2 (.fieldLink RX0 31 "GlobalRoutes$Grid" "histories" "[I") (by decide +kernel)
  have fr0 : Fr (fun j => j = 4) ws ws := Fr.rfl
  refine q_iconstN hc 0 dX0_rememberOver_0 rfl ?_
  refine q_istore_n hc [(1, .int (iZ ((0 : Nat) : Int))), (0, .ref (ad 1))] dX0_rememberOver_1 rfl (by decide) rfl ?_
  refine V.sub [1, 0] rfl ?_
  refine V.loop (α := Nat × (Nat → Nat)) (fun x => 2 * n - x.1) (fun x u => (x.1 ≤ 2 * n) ∧ (∀ k, x.2 k = if k < x.1 then hi k + (if 0 < us k - cap k then 1 else 0) else hi k) ∧ (u[4]? = some (ad 4, iN K (2 * n) x.2)) ∧ (Fr (fun j => j = 4) ws u)) (fun x => [(0, .ref (ad 1)), (1, .int (iZ ((x.1 : Nat) : Int)))]) (0, hi) ⟨(Nat.zero_le _), (fun k => by simp), (h4), (Fr.rfl)⟩ rfl ?_
  intro x ih2 u1 hI
  obtain ⟨i, f⟩ := x
  try dsimp only at ih2 hI ⊢
  obtain ⟨hi0, hf, hq2, fr3⟩ := hI
  have hq4 := (fr3.at 1 (by omega)).trans h1
  have hq5 := (fr3.at 2 (by omega)).trans h2
  have hq6 := (fr3.at 3 (by omega)).trans h3
  refine q_iload_n hc 1 dX0_rememberOver_2 rfl ?_
  refine q_aload_n hc 0 dX0_rememberOver_3 rfl ?_
  refine q_get hc 1 3 i0 hq4 rfl (by decide) f21 rfl rfl dX0_rememberOver_4 ?_
  refine q_icmpN_ge hc 34 dX0_rememberOver_7 (by decide) (by omega) (by omega) (fun c7 => ?_) (fun c7 => ?_)
  · refine q_norm_iN (g := fun k => hi k + (if 0 < us k - cap k then 1 else 0)) hc 4 hq2 (fun k hk => by rw [hf k, if_pos (by omega)]) (fun u8 hn' hf' => ?_)
    have hq9 : u8[4]? = some (ad 4, iN K (2 * n) (fun k => hi k + (if 0 < us k - cap k then 1 else 0))) := hn'
    have hq10 := (hf' 1 (by omega)).trans hq4
    have hq11 := (hf' 2 (by omega)).trans hq5
    have hq12 := (hf' 3 (by omega)).trans hq6
    have fr13 := Fr.one hf'
    exact q_vretM hc (⟨hq9, ((fr0.trans fr3 (fun _ _ => by omega)).trans fr13 (fun _ _ => by omega))⟩) hr hlk dX0_rememberOver_34
  · refine q_aload_n hc 0 dX0_rememberOver_10 rfl ?_
    refine q_iload_n hc 1 dX0_rememberOver_11 rfl ?_
    refine q_callPn (As := [.int (iZ ((i : Nat) : Int))]) (rest := []) hc (c_X0_excess l D K u1 ad i w h n cap us hq4 hq5 hq6 (by omega) hn hcap hus) (cwV 1 hc.1.2.2.2.2 gX0_rememberOver_X0_excess rfl rfl rfl (by decide +kernel) ⟨Nat.le_of_ble_eq_true rfl, Nat.le_of_ble_eq_true rfl⟩) 1 hq4 rfl rfl rfl (by decide) dX0_rememberOver_12 ⟨Nat.zero_le _, Nat.zero_le _⟩ ?_
    have hb9 := hus i (by omega)
    refine q_if_le hc 28 dX0_rememberOver_15 (by decide) (by omega) (fun c16 => ?_) (fun c16 => ?_)
    · refine q_iincN (q := 1) hc 1 [(1, .int (iZ ((i + 1 : Nat) : Int))), (0, .ref (ad 1))] dX0_rememberOver_28 rfl rfl (by decide) rfl ?_
      refine q_goto hc 2 dX0_rememberOver_31 (by decide) ?_
      refine V.sub [1, 0] rfl ?_
      exact ih2 (i + 1, f) _ (by omega) ⟨(by omega), (upd_hf0 (g := fun k => hi k + (if 0 < us k - cap k then 1 else 0)) hf (by show _ + _ = _; rw [if_neg (by omega)]; rfl)), (hq2), (fr3)⟩
    · refine q_aload_n hc 0 dX0_rememberOver_18 rfl ?_
      refine q_get hc 1 6 i0 hq4 rfl (by decide) f31 rfl rfl dX0_rememberOver_19 ?_
      refine q_iload_n hc 1 dX0_rememberOver_22 rfl ?_
      refine q_dup2 hc dX0_rememberOver_23 rfl rfl ?_
      refine q_ialdN (j := i) hc 4 hq2 rfl (by omega) (by omega) dX0_rememberOver_24 ?_
      refine q_iconstN hc 1 dX0_rememberOver_25 rfl ?_
      refine q_iaddN hc dX0_rememberOver_26 ?_
      refine V.topi (show _ = ((hi i + (if 0 < us i - cap i then 1 else 0) : Nat) : Int) from by rw [if_pos (by omega)]; have h8 := hf i; simp at h8; omega) ?_
      refine q_iastN (j := i) (x := hi i + (if 0 < us i - cap i then 1 else 0)) hc 4 hq2 rfl (by omega) (by omega) dX0_rememberOver_27 (fun u17 hn' hf' => ?_)
      have hq18 : u17[4]? = some (ad 4, iN K (2 * n) (va_up f i (hi i + (if 0 < us i - cap i then 1 else 0)))) := hn'
      have hq19 := (hf' 1 (by omega)).trans hq4
      have hq20 := (hf' 2 (by omega)).trans hq5
      have hq21 := (hf' 3 (by omega)).trans hq6
      have fr22 := Fr.one hf'
      refine q_iincN (q := 1) hc 1 [(1, .int (iZ ((i + 1 : Nat) : Int))), (0, .ref (ad 1))] dX0_rememberOver_28 rfl rfl (by decide) rfl ?_
      refine q_goto hc 2 dX0_rememberOver_31 (by decide) ?_
      refine V.sub [1, 0] rfl ?_
      exact ih2 (i + 1, va_up f i (hi i + (if 0 < us i - cap i then 1 else 0))) _ (by omega) ⟨(by omega), (upd_hf (g := fun k => hi k + (if 0 < us k - cap k then 1 else 0)) hf), (hq18), ((fr3.trans fr22 (fun _ _ => by omega)))⟩
