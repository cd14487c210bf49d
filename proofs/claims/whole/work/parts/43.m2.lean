
set_option maxRecDepth 100000 in
set_option maxHeartbeats 4000000 in
theorem c_X5_forgetRoute (l : Launch) (D : va_G) (K : Nat → ClassId) (ws : va_W) (ad : Nat → Nat) (w h n th nc rc : Nat) (t : Nat) (ro : Nat → Nat → Bool) (rl : Nat → Int) (h66 : ws[66]? = some (ad 66, mO ad w h th nc rc)) (m71 : ws[71]? = some (ad 71, zA K 12 (mHr rl))) (m72 : ws[72]? = some (ad 72, zA K 1536 (mRo n ro))) (ht : t < 12) (hn : n ≤ 64) : MMi l yX5_forgetRoute wsX5_forgetRoute ({ frames := 0, cells := 0, slots := 0, locals := 0 }) D K ws [.ref (ad 66), .int (iZ ((t : Nat) : Int))] (fun r u => (r = (iZ ((cnt (ro t) (2 * n) : Nat) : Int))) ∧ (u[72]? = some (ad 72, zA K 1536 (mRo n (va_up ro t (fun _ => false))))) ∧ (u[71]? = some (ad 71, zA K 12 (mHr (va_up rl t (-1))))) ∧ (Fr (fun j => j = 72 ∨ j = 71) ws u)) := by
  refine q_entMi RX5 [(0, .ref (ad 66)), (1, .int (iZ ((t : Nat) : Int)))] (by decide) rfl rfl (Nat.le_of_ble_eq_true rfl) rfl ?_
  intro p e s m args below meth c hc hr hlk
  have i5 : ∀ w ∈ u_ws RX5 TX5 16, w ∈ wsX5_forgetRoute := by decide +kernel
  have f22 := hc.1.2.2.2.2 (.fieldLink RX5 22 "GlobalRoutesModel" "hasRoute" "[Z") (by decide +kernel)
  have f26 := hc.1.2.2.2.2 (.fieldLink RX5 26 "GlobalRoutesModel" "routes" "[Z") (by decide +kernel)
  have fr0 : Fr (fun j => j = 72 ∨ j = 71) ws ws := Fr.rfl
  refine q_iconstN hc 0 dX5_forgetRoute_0 rfl ?_
  refine q_istore_n hc [(2, .int (iZ ((0 : Nat) : Int))), (0, .ref (ad 66)), (1, .int (iZ ((t : Nat) : Int)))] dX5_forgetRoute_1 rfl (by decide) rfl ?_
  refine q_iconstN hc 0 dX5_forgetRoute_2 rfl ?_
  refine q_istore_n hc [(3, .int (iZ ((0 : Nat) : Int))), (2, .int (iZ ((0 : Nat) : Int))), (0, .ref (ad 66)), (1, .int (iZ ((t : Nat) : Int)))] dX5_forgetRoute_3 rfl (by decide) rfl ?_
  refine V.sub [2, 3, 1, 0] rfl ?_
  refine V.loop (α := Nat × Nat × (Nat → Bool)) (fun x => 128 - x.1) (fun x u => (x.1 ≤ 128) ∧ (x.2.1 = cnt (mR n (ro t)) x.1) ∧ (∀ k, x.2.2 k = if 128 * t ≤ k ∧ k < 128 * t + x.1 then false else mRo n ro k) ∧ (u[72]? = some (ad 72, zA K 1536 x.2.2)) ∧ (Fr (fun j => j = 72) ws u)) (fun x => [(0, .ref (ad 66)), (1, .int (iZ ((t : Nat) : Int))), (2, .int (iZ ((x.2.1 : Nat) : Int))), (3, .int (iZ ((x.1 : Nat) : Int)))]) (0, 0, mRo n ro) ⟨(Nat.zero_le _), (rfl), (fun k => by rw [if_neg (by omega)]), (m72), (Fr.rfl)⟩ rfl ?_
  intro x ih4 u1 hI
  obtain ⟨i, a, f⟩ := x
  try dsimp only at ih4 hI ⊢
  obtain ⟨hi0, ha, hf, hq2, fr3⟩ := hI
  have hq4 := (fr3.at 66 (by omega)).trans h66
  have hq5 := (fr3.at 71 (by omega)).trans m71
  refine q_iload_n hc 3 dX5_forgetRoute_4 rfl ?_
  refine q_sipushN hc 128 dX5_forgetRoute_5 (by decide +kernel) ?_
  refine q_icmpN_ge hc 53 dX5_forgetRoute_8 (by decide) (by omega) (by omega) (fun c6 => ?_) (fun c6 => ?_)
  · obtain rfl : i = 128 := by omega
    refine q_norm_zA (g := mRo n (va_up ro t (fun _ => false))) hc 72 hq2 (fun k _ => fg_end hf k) (fun u7 hn' hf' => ?_)
    have hq8 : u7[72]? = some (ad 72, zA K 1536 (mRo n (va_up ro t (fun _ => false)))) := hn'
    have hq9 := (hf' 66 (by omega)).trans hq4
    have hq10 := (hf' 71 (by omega)).trans hq5
    have fr11 := Fr.one hf'
    refine q_aload_n hc 0 dX5_forgetRoute_53 rfl ?_
    refine q_get hc 66 8 i5 hq9 rfl (by decide) f22 rfl rfl dX5_forgetRoute_54 ?_
    refine q_iload_n hc 1 dX5_forgetRoute_57 rfl ?_
    refine q_iconstN hc 0 dX5_forgetRoute_58 rfl ?_
    refine q_zast (j := t) (x := false) hc 71 hq10 rfl (by omega) (by omega) dX5_forgetRoute_59 (fun u12 hn' hf' => ?_)
    have hq13 : u12[71]? = some (ad 71, zA K 12 (va_up (mHr rl) t false)) := hn'
    have hq14 := (hf' 66 (by omega)).trans hq9
    have hq15 := (hf' 72 (by omega)).trans hq8
    have fr16 := Fr.one hf'
    refine q_norm_zA (g := mHr (va_up rl t (-1))) hc 71 hq13 (fun k _ => mHr_up) (fun u17 hn' hf' => ?_)
    have hq18 : u17[71]? = some (ad 71, zA K 12 (mHr (va_up rl t (-1)))) := hn'
    have hq19 := (hf' 66 (by omega)).trans hq14
    have hq20 := (hf' 72 (by omega)).trans hq15
    have fr21 := Fr.one hf'
    refine q_iload_n hc 2 dX5_forgetRoute_60 rfl ?_
    exact q_iretM (z := ((a : Nat) : Int)) hc (⟨congrArg iZ (by rw [ha, cnt_ub hn]), hq20, hq18, ((((fr0.trans fr3 (fun _ _ => by omega)).trans fr11 (fun _ _ => by omega)).trans fr16 (fun _ _ => by omega)).trans fr21 (fun _ _ => by omega))⟩) hr hlk dX5_forgetRoute_61
  · have e9 : f (128 * t + i) = mRo n ro (128 * t + i) := by rw [hf, if_neg (by omega)]
    refine q_iload_n hc 2 dX5_forgetRoute_11 rfl ?_
    refine q_aload_n hc 0 dX5_forgetRoute_12 rfl ?_
    refine q_get hc 66 9 i5 hq4 rfl (by decide) f26 rfl rfl dX5_forgetRoute_13 ?_
    refine q_sipushN hc 128 dX5_forgetRoute_16 (by decide +kernel) ?_
    refine q_iload_n hc 1 dX5_forgetRoute_19 rfl ?_
    refine q_imulN hc dX5_forgetRoute_20 ?_
    refine q_iload_n hc 3 dX5_forgetRoute_21 rfl ?_
    refine q_iaddN hc dX5_forgetRoute_22 ?_
    refine q_zald (j := 128 * t + i) hc 72 hq2 rfl (by omega) (by omega) dX5_forgetRoute_23 ?_
    refine q_ifz_eq hc 31 dX5_forgetRoute_24 (by decide) (fun c22 => ?_) (fun c22 => ?_)
    · refine q_iconstN hc 0 dX5_forgetRoute_31 rfl ?_
      refine q_iaddN hc dX5_forgetRoute_32 ?_
      refine q_istore_n hc [(2, .int (iZ ((a + 0 : Nat) : Int))), (0, .ref (ad 66)), (1, .int (iZ ((t : Nat) : Int))), (3, .int (iZ ((i : Nat) : Int)))] dX5_forgetRoute_33 rfl (by decide) rfl ?_
      refine q_aload_n hc 1 dX5_forgetRoute_34 rfl ?_
      refine q_get hc 66 9 i5 hq4 rfl (by decide) f26 rfl rfl dX5_forgetRoute_35 ?_
      refine q_sipushN hc 128 dX5_forgetRoute_38 (by decide +kernel) ?_
      refine q_iload_n hc 2 dX5_forgetRoute_41 rfl ?_
      refine q_imulN hc dX5_forgetRoute_42 ?_
      refine q_iload_n hc 3 dX5_forgetRoute_43 rfl ?_
      refine q_iaddN hc dX5_forgetRoute_44 ?_
      refine q_iconstN hc 0 dX5_forgetRoute_45 rfl ?_
      refine q_zast (j := 128 * t + i) (x := false) hc 72 hq2 rfl (by omega) (by omega) dX5_forgetRoute_46 (fun u23 hn' hf' => ?_)
      have hq24 : u23[72]? = some (ad 72, zA K 1536 (va_up f (128 * t + i) false)) := hn'
      have hq25 := (hf' 66 (by omega)).trans hq4
      have hq26 := (hf' 71 (by omega)).trans hq5
      have fr27 := Fr.one hf'
      refine q_iincN (q := 3) hc 1 [(3, .int (iZ ((i + 1 : Nat) : Int))), (2, .int (iZ ((a + 0 : Nat) : Int))), (0, .ref (ad 66)), (1, .int (iZ ((t : Nat) : Int)))] dX5_forgetRoute_47 rfl rfl (by decide) rfl ?_
      refine q_goto hc 4 dX5_forgetRoute_50 (by decide) ?_
      refine V.sub [2, 3, 1, 0] rfl ?_
      exact ih4 (i + 1, a + 0, va_up f (128 * t + i) false) _ (by omega) ⟨(by omega), (by rw [cnt_s, ha, ← mRo_at (show i < 128 by omega), ← e9, c22]; rfl), (fg_up hf), (hq24), ((fr3.trans fr27 (fun _ _ => by omega)))⟩
    · refine q_iconstN hc 1 dX5_forgetRoute_27 rfl ?_
      refine q_goto hc 32 dX5_forgetRoute_28 (by decide) ?_
      refine q_iaddN hc dX5_forgetRoute_32 ?_
      refine q_istore_n hc [(2, .int (iZ ((a + 1 : Nat) : Int))), (0, .ref (ad 66)), (1, .int (iZ ((t : Nat) : Int))), (3, .int (iZ ((i : Nat) : Int)))] dX5_forgetRoute_33 rfl (by decide) rfl ?_
      refine q_aload_n hc 1 dX5_forgetRoute_34 rfl ?_
      refine q_get hc 66 9 i5 hq4 rfl (by decide) f26 rfl rfl dX5_forgetRoute_35 ?_
      refine q_sipushN hc 128 dX5_forgetRoute_38 (by decide +kernel) ?_
      refine q_iload_n hc 2 dX5_forgetRoute_41 rfl ?_
      refine q_imulN hc dX5_forgetRoute_42 ?_
      refine q_iload_n hc 3 dX5_forgetRoute_43 rfl ?_
      refine q_iaddN hc dX5_forgetRoute_44 ?_
      refine q_iconstN hc 0 dX5_forgetRoute_45 rfl ?_
      refine q_zast (j := 128 * t + i) (x := false) hc 72 hq2 rfl (by omega) (by omega) dX5_forgetRoute_46 (fun u28 hn' hf' => ?_)
      have hq29 : u28[72]? = some (ad 72, zA K 1536 (va_up f (128 * t + i) false)) := hn'
      have hq30 := (hf' 66 (by omega)).trans hq4
      have hq31 := (hf' 71 (by omega)).trans hq5
      have fr32 := Fr.one hf'
      refine q_iincN (q := 3) hc 1 [(3, .int (iZ ((i + 1 : Nat) : Int))), (2, .int (iZ ((a + 1 : Nat) : Int))), (0, .ref (ad 66)), (1, .int (iZ ((t : Nat) : Int)))] dX5_forgetRoute_47 rfl rfl (by decide) rfl ?_
      refine q_goto hc 4 dX5_forgetRoute_50 (by decide) ?_
      refine V.sub [2, 3, 1, 0] rfl ?_
      exact ih4 (i + 1, a + 1, va_up f (128 * t + i) false) _ (by omega) ⟨(by omega), (by rw [cnt_s, ha, ← mRo_at (show i < 128 by omega), ← e9, c22]; rfl), (fg_up hf), (hq29), ((fr3.trans fr32 (fun _ _ => by omega)))⟩

set_option maxRecDepth 100000 in
set_option maxHeartbeats 4000000 in
theorem c_X5_isOverAnywhere (l : Launch) (D : va_G) (K : Nat → ClassId) (ws : va_W) (ad : Nat → Nat) (w h n th nc rc : Nat) (t c0 : Nat) (cap us : Nat → Nat) (ro : Nat → Nat → Bool) (h66 : ws[66]? = some (ad 66, mO ad w h th nc rc)) (m67 : ws[67]? = some (ad 67, iN K 128 (mA n c0 cap))) (m72 : ws[72]? = some (ad 72, zA K 1536 (mRo n ro))) (ht : t < 12) (hn : n ≤ 64) (hnc : nc ≤ 12) (hUC : UC n nc us ro) (hc0 : c0 ≤ 20) (hcap : ∀ k, k < 2 * n → cap k ≤ 20) (hus : ∀ k, k < 2 * n → us k ≤ 12) : MPi l yX5_isOverAnywhere wsX5_isOverAnywhere ({ frames := 2, cells := 0, slots := 0, locals := 45 }) D K ws [.ref (ad 66), .int (iZ ((t : Nat) : Int))] (fun r => r = (iZ (bZ (anyB (fun k => ro t k && decide (0 < us k - cap k)) (2 * n))))) := by
  refine q_entPi RX5 [(0, .ref (ad 66)), (1, .int (iZ ((t : Nat) : Int)))] (by decide) rfl rfl (Nat.le_of_ble_eq_true rfl) rfl ?_
  intro p e s m args below meth c hc hr hlk
  have i5 : ∀ w ∈ u_ws RX5 TX5 16, w ∈ wsX5_isOverAnywhere := by decide +kernel
  have f26 := hc.1.2.2.2.2 (.fieldLink RX5 26 "GlobalRoutesModel" "routes" "[Z") (by decide +kernel)
  refine q_iconstN hc 0 dX5_isOverAnywhere_0 rfl ?_
  refine q_istore_n hc [(2, .int (iZ ((0 : Nat) : Int))), (0, .ref (ad 66)), (1, .int (iZ ((t : Nat) : Int)))] dX5_isOverAnywhere_1 rfl (by decide) rfl ?_
  refine q_iconstN hc 0 dX5_isOverAnywhere_2 rfl ?_
  refine q_istore_n hc [(3, .int (iZ ((0 : Nat) : Int))), (2, .int (iZ ((0 : Nat) : Int))), (0, .ref (ad 66)), (1, .int (iZ ((t : Nat) : Int)))] dX5_isOverAnywhere_3 rfl (by decide) rfl ?_
  refine V.sub [2, 3, 1, 0] rfl ?_
  refine V.loopP (α := Nat × Bool) (fun x => 128 - x.1) (fun x => (x.1 ≤ 128) ∧ (x.2 = anyB (fun b => mR n (ro t) b && decide (0 < mA n 0 (fun k => us k - cap k) b)) x.1)) (fun x => [(0, .ref (ad 66)), (1, .int (iZ ((t : Nat) : Int))), (2, .int (iZ (bZ x.2))), (3, .int (iZ ((x.1 : Nat) : Int)))]) (0, false) ⟨(Nat.zero_le _), (rfl)⟩ rfl ?_
  intro x ih4 hI
  obtain ⟨i, q⟩ := x
  try dsimp only at ih4 hI ⊢
  obtain ⟨hi0, hq⟩ := hI
  refine q_iload_n hc 3 dX5_isOverAnywhere_4 rfl ?_
  refine q_sipushN hc 128 dX5_isOverAnywhere_5 (by decide +kernel) ?_
  refine q_icmpN_ge hc 50 dX5_isOverAnywhere_8 (by decide) (by omega) (by omega) (fun c2 => ?_) (fun c2 => ?_)
  · refine q_iload_n hc 2 dX5_isOverAnywhere_50 rfl ?_
    exact q_zretP (b := q) hc (congrArg (fun b => iZ (bZ b)) (by rw [hq, show i = 128 by omega]; exact anyR_ub hn (ro t) (fun k => us k - cap k))) hr hlk dX5_isOverAnywhere_51
  · refine q_iload_n hc 2 dX5_isOverAnywhere_11 rfl ?_
    refine q_ifz_ne hc 38 dX5_isOverAnywhere_12 (by decide) (fun c3 => ?_) (fun c3 => ?_)
    · refine q_iconstN hc 1 dX5_isOverAnywhere_38 rfl ?_
      refine q_goto hc 43 dX5_isOverAnywhere_39 (by decide) ?_
      refine q_istore_n hc [(2, .int (iZ ((1 : Nat) : Int))), (0, .ref (ad 66)), (1, .int (iZ ((t : Nat) : Int))), (3, .int (iZ ((i : Nat) : Int)))] dX5_isOverAnywhere_43 rfl (by decide) rfl ?_
      refine q_iincN (q := 3) hc 1 [(3, .int (iZ ((i + 1 : Nat) : Int))), (2, .int (iZ ((1 : Nat) : Int))), (0, .ref (ad 66)), (1, .int (iZ ((t : Nat) : Int)))] dX5_isOverAnywhere_44 rfl rfl (by decide) rfl ?_
      refine q_goto hc 4 dX5_isOverAnywhere_47 (by decide) ?_
      refine V.sub [2, 3, 1, 0] rfl ?_
      exact ih4 (i + 1, true) (by omega) ⟨(by omega), (by show true = (anyB _ i || (mR n (ro t) i && decide (0 < mA n 0 (fun k => us k - cap k) i))); rw [← hq, c3]; rfl)⟩
    · refine q_aload_n hc 0 dX5_isOverAnywhere_15 rfl ?_
      refine q_get hc 66 9 i5 h66 rfl (by decide) f26 rfl rfl dX5_isOverAnywhere_16 ?_
      refine q_sipushN hc 128 dX5_isOverAnywhere_19 (by decide +kernel) ?_
      refine q_iload_n hc 1 dX5_isOverAnywhere_22 rfl ?_
      refine q_imulN hc dX5_isOverAnywhere_23 ?_
      refine q_iload_n hc 3 dX5_isOverAnywhere_24 rfl ?_
      refine q_iaddN hc dX5_isOverAnywhere_25 ?_
      refine q_zald (j := 128 * t + i) hc 72 m72 rfl (by omega) (by omega) dX5_isOverAnywhere_26 ?_
      refine q_ifz_eq hc 42 dX5_isOverAnywhere_27 (by decide) (fun c4 => ?_) (fun c4 => ?_)
      · refine q_iconstN hc 0 dX5_isOverAnywhere_42 rfl ?_
        refine q_istore_n hc [(2, .int (iZ ((0 : Nat) : Int))), (0, .ref (ad 66)), (1, .int (iZ ((t : Nat) : Int))), (3, .int (iZ ((i : Nat) : Int)))] dX5_isOverAnywhere_43 rfl (by decide) rfl ?_
        refine q_iincN (q := 3) hc 1 [(3, .int (iZ ((i + 1 : Nat) : Int))), (2, .int (iZ ((0 : Nat) : Int))), (0, .ref (ad 66)), (1, .int (iZ ((t : Nat) : Int)))] dX5_isOverAnywhere_44 rfl rfl (by decide) rfl ?_
        refine q_goto hc 4 dX5_isOverAnywhere_47 (by decide) ?_
        refine V.sub [2, 3, 1, 0] rfl ?_
        exact ih4 (i + 1, false) (by omega) ⟨(by omega), (by show false = (anyB _ i || (mR n (ro t) i && decide (0 < mA n 0 (fun k => us k - cap k) i))); rw [← hq, c3, ← mRo_at (show i < 128 by omega), c4]; rfl)⟩
      · refine q_aload_n hc 0 dX5_isOverAnywhere_30 rfl ?_
        refine q_iload_n hc 3 dX5_isOverAnywhere_31 rfl ?_
        refine q_callPn (As := [.int (iZ ((i : Nat) : Int))]) (rest := []) hc (c_X5_over l D K ws ad w h n th nc rc i c0 cap _ ro h66 m67 m72 (by omega) hnc hUC hc0 hcap hus) (cwV 1 hc.1.2.2.2.2 gX5_isOverAnywhere_X5_over rfl rfl rfl (by decide +kernel) ⟨Nat.le_of_ble_eq_true rfl, Nat.le_of_ble_eq_true rfl⟩) 66 h66 rfl rfl rfl (by decide) dX5_isOverAnywhere_32 ⟨Nat.zero_le _, Nat.zero_le _⟩ ?_
        have u3 := mA_bd (z := 0) (show ∀ k, k < 2 * n → us k - cap k ≤ 12 from fun k hk => by have := hus k hk; omega) (by omega) (show i < 128 by omega)
        refine q_if_le hc 42 dX5_isOverAnywhere_35 (by decide) (by omega) (fun c7 => ?_) (fun c7 => ?_)
        · refine q_iconstN hc 0 dX5_isOverAnywhere_42 rfl ?_
          refine q_istore_n hc [(2, .int (iZ ((0 : Nat) : Int))), (0, .ref (ad 66)), (1, .int (iZ ((t : Nat) : Int))), (3, .int (iZ ((i : Nat) : Int)))] dX5_isOverAnywhere_43 rfl (by decide) rfl ?_
          refine q_iincN (q := 3) hc 1 [(3, .int (iZ ((i + 1 : Nat) : Int))), (2, .int (iZ ((0 : Nat) : Int))), (0, .ref (ad 66)), (1, .int (iZ ((t : Nat) : Int)))] dX5_isOverAnywhere_44 rfl rfl (by decide) rfl ?_
          refine q_goto hc 4 dX5_isOverAnywhere_47 (by decide) ?_
          refine V.sub [2, 3, 1, 0] rfl ?_
          exact ih4 (i + 1, false) (by omega) ⟨(by omega), (by show false = (anyB _ i || (mR n (ro t) i && decide (0 < mA n 0 (fun k => us k - cap k) i))); rw [← hq, c3, ← mRo_at (show i < 128 by omega), c4, decide_eq_false (by omega)]; rfl)⟩
        · refine q_iconstN hc 1 dX5_isOverAnywhere_38 rfl ?_
          refine q_goto hc 43 dX5_isOverAnywhere_39 (by decide) ?_
          refine q_istore_n hc [(2, .int (iZ ((1 : Nat) : Int))), (0, .ref (ad 66)), (1, .int (iZ ((t : Nat) : Int))), (3, .int (iZ ((i : Nat) : Int)))] dX5_isOverAnywhere_43 rfl (by decide) rfl ?_
          refine q_iincN (q := 3) hc 1 [(3, .int (iZ ((i + 1 : Nat) : Int))), (2, .int (iZ ((1 : Nat) : Int))), (0, .ref (ad 66)), (1, .int (iZ ((t : Nat) : Int)))] dX5_isOverAnywhere_44 rfl rfl (by decide) rfl ?_
          refine q_goto hc 4 dX5_isOverAnywhere_47 (by decide) ?_
          refine V.sub [2, 3, 1, 0] rfl ?_
          exact ih4 (i + 1, true) (by omega) ⟨(by omega), (by show true = (anyB _ i || (mR n (ro t) i && decide (0 < mA n 0 (fun k => us k - cap k) i))); rw [← hq, c3, ← mRo_at (show i < 128 by omega), c4, decide_eq_true (by omega)]; rfl)⟩

set_option maxRecDepth 100000 in
set_option maxHeartbeats 4000000 in
theorem c_X5_isDone (l : Launch) (D : va_G) (K : Nat → ClassId) (ws : va_W) (ad : Nat → Nat) (w h n th nc rc : Nat) (c0 : Nat) (cap us : Nat → Nat) (pn : Nat → Nat) (rl : Nat → Int) (ro : Nat → Nat → Bool) (h66 : ws[66]? = some (ad 66, mO ad w h th nc rc)) (m67 : ws[67]? = some (ad 67, iN K 128 (mA n c0 cap))) (m69 : ws[69]? = some (ad 69, iN K 12 pn)) (m71 : ws[71]? = some (ad 71, zA K 12 (mHr rl))) (m72 : ws[72]? = some (ad 72, zA K 1536 (mRo n ro))) (hn : n ≤ 64) (hnc : nc ≤ 12) (hUC : UC n nc us ro) (hc0 : c0 ≤ 20) (hcap : ∀ k, k < 2 * n → cap k ≤ 20) (hus : ∀ k, k < 2 * n → us k ≤ 12) (hpn : ∀ j, j < nc → pn j ≤ 5) : MPi l yX5_isDone wsX5_isDone ({ frames := 2, cells := 0, slots := 0, locals := 45 }) D K ws [.ref (ad 66)] (fun r => r = (iZ (bZ (dnB n nc cap pn (us, ro, rl))))) := by
  refine q_entPi RX5 [(0, .ref (ad 66))] (by decide) rfl rfl (Nat.le_of_ble_eq_true rfl) rfl ?_
  intro p e s m args below meth c hc hr hlk
  have i5 : ∀ w ∈ u_ws RX5 TX5 16, w ∈ wsX5_isDone := by decide +kernel
  have f63 := hc.1.2.2.2.2 (.fieldLink RX5 63 "GlobalRoutesModel" "nets" "I") (by decide +kernel)
  have f16 := hc.1.2.2.2.2 (.fieldLink RX5 16 "GlobalRoutesModel" "pins" "[I") (by decide +kernel)
  have f22 := hc.1.2.2.2.2 (.fieldLink RX5 22 "GlobalRoutesModel" "hasRoute" "[Z") (by decide +kernel)
  refine q_iconstN hc 1 dX5_isDone_0 rfl ?_
  refine q_istore_n hc [(1, .int (iZ ((1 : Nat) : Int))), (0, .ref (ad 66))] dX5_isDone_1 rfl (by decide) rfl ?_
  refine q_iconstN hc 0 dX5_isDone_2 rfl ?_
  refine q_istore_n hc [(2, .int (iZ ((0 : Nat) : Int))), (1, .int (iZ ((1 : Nat) : Int))), (0, .ref (ad 66))] dX5_isDone_3 rfl (by decide) rfl ?_
  refine V.sub [2, 1, 0] rfl ?_
  refine V.loopP (α := Nat × Bool) (fun x => 128 - x.1) (fun x => (x.1 ≤ 128) ∧ (x.2 = !(anyB (fun b => decide (0 < mA n 0 (fun k => us k - cap k) b)) x.1))) (fun x => [(0, .ref (ad 66)), (1, .int (iZ (bZ x.2))), (2, .int (iZ ((x.1 : Nat) : Int)))]) (0, true) ⟨(Nat.zero_le _), (rfl)⟩ rfl ?_
  intro x ih4 hI
  obtain ⟨i, q⟩ := x
  try dsimp only at ih4 hI ⊢
  obtain ⟨hi0, hq⟩ := hI
  refine q_iload_n hc 2 dX5_isDone_4 rfl ?_
  refine q_sipushN hc 128 dX5_isDone_5 (by decide +kernel) ?_
  refine q_icmpN_ge hc 35 dX5_isDone_8 (by decide) (by omega) (by omega) (fun c2 => ?_) (fun c2 => ?_)
  · refine q_iconstN hc 0 dX5_isDone_35 rfl ?_
    refine q_istore_n hc [(2, .int (iZ ((0 : Nat) : Int))), (0, .ref (ad 66)), (1, .int (iZ (bZ q)))] dX5_isDone_36 rfl (by decide) rfl ?_
    refine V.sub [1, 2, 0] rfl ?_
    refine V.loopP (α := Nat × Bool) (fun x => nc - x.1) (fun x => (x.1 ≤ nc) ∧ (x.2 = (q && !(anyB (fun z9 => decide (2 ≤ pn z9) && decide (rl z9 = -1)) x.1)))) (fun x => [(0, .ref (ad 66)), (1, .int (iZ (bZ x.2))), (2, .int (iZ ((x.1 : Nat) : Int)))]) (0, q) ⟨(Nat.zero_le _), ((Bool.and_true q).symm)⟩ rfl ?_
    intro x ih37 hI
    obtain ⟨j, q2⟩ := x
    try dsimp only at ih37 hI ⊢
    obtain ⟨hj0, hq2⟩ := hI
    refine q_iload_n hc 2 dX5_isDone_37 rfl ?_
    refine q_aload_n hc 0 dX5_isDone_38 rfl ?_
    refine q_get hc 66 5 i5 h66 rfl (by decide) f63 rfl rfl dX5_isDone_39 ?_
    refine q_icmpN_ge hc 80 dX5_isDone_42 (by decide) (by omega) (by omega) (fun c4 => ?_) (fun c4 => ?_)
    · refine q_iload_n hc 1 dX5_isDone_80 rfl ?_
      exact q_zretP (b := q2) hc (congrArg (fun b => iZ (bZ b)) (by rw [hq2, hq, show i = 128 by omega, show j = nc by omega, anyB_cnt (fun b => decide (0 < mA n 0 (fun k => us k - cap k) b)), cntd_ub hn, Bool.and_comm]; exact congrArg (fun z => !(anyB (fun z9 => decide (2 ≤ pn z9) && decide (rl z9 = -1)) nc) && z) (not_dec _))) hr hlk dX5_isDone_81
    · refine q_iload_n hc 1 dX5_isDone_45 rfl ?_
      refine q_ifz_eq hc 72 dX5_isDone_46 (by decide) (fun c5 => ?_) (fun c5 => ?_)
      · refine q_iconstN hc 0 dX5_isDone_72 rfl ?_
        refine q_istore_n hc [(1, .int (iZ ((0 : Nat) : Int))), (0, .ref (ad 66)), (2, .int (iZ ((j : Nat) : Int)))] dX5_isDone_73 rfl (by decide) rfl ?_
        refine q_iincN (q := 2) hc 1 [(2, .int (iZ ((j + 1 : Nat) : Int))), (1, .int (iZ ((0 : Nat) : Int))), (0, .ref (ad 66))] dX5_isDone_74 rfl rfl (by decide) rfl ?_
        refine q_goto hc 37 dX5_isDone_77 (by decide) ?_
        refine V.sub [2, 1, 0] rfl ?_
        exact ih37 (j + 1, false) (by omega) ⟨(by omega), (by rw [show q2 = false from c5] at hq2; show false = (q && !(anyB _ j || (decide (2 ≤ pn j) && decide (rl j = -1)))); rw [Bool.not_or, ← Bool.and_assoc, ← hq2]; rfl)⟩
      · have u4 := hpn j (by omega)
        refine q_aload_n hc 0 dX5_isDone_49 rfl ?_
        refine q_get hc 66 6 i5 h66 rfl (by decide) f16 rfl rfl dX5_isDone_50 ?_
        refine q_iload_n hc 2 dX5_isDone_53 rfl ?_
        refine q_ialdN (j := j) hc 69 m69 rfl (by omega) (by omega) dX5_isDone_54 ?_
        refine q_iconstN hc 2 dX5_isDone_55 rfl ?_
        refine q_icmpN_lt hc 68 dX5_isDone_56 (by decide) (by omega) (by omega) (fun c6 => ?_) (fun c6 => ?_)
        · refine q_iconstN hc 1 dX5_isDone_68 rfl ?_
          refine q_goto hc 73 dX5_isDone_69 (by decide) ?_
          refine q_istore_n hc [(1, .int (iZ ((1 : Nat) : Int))), (0, .ref (ad 66)), (2, .int (iZ ((j : Nat) : Int)))] dX5_isDone_73 rfl (by decide) rfl ?_
          refine q_iincN (q := 2) hc 1 [(2, .int (iZ ((j + 1 : Nat) : Int))), (1, .int (iZ ((1 : Nat) : Int))), (0, .ref (ad 66))] dX5_isDone_74 rfl rfl (by decide) rfl ?_
          refine q_goto hc 37 dX5_isDone_77 (by decide) ?_
          refine V.sub [2, 1, 0] rfl ?_
          exact ih37 (j + 1, true) (by omega) ⟨(by omega), (by rw [show q2 = true from c5] at hq2; show true = (q && !(anyB _ j || (decide (2 ≤ pn j) && decide (rl j = -1)))); rw [Bool.not_or, ← Bool.and_assoc, ← hq2, decide_eq_false (show ¬ 2 ≤ pn j by omega)]; rfl)⟩
        · refine q_aload_n hc 0 dX5_isDone_59 rfl ?_
          refine q_get hc 66 8 i5 h66 rfl (by decide) f22 rfl rfl dX5_isDone_60 ?_
          refine q_iload_n hc 2 dX5_isDone_63 rfl ?_
          refine q_zald (j := j) hc 71 m71 rfl (by omega) (by omega) dX5_isDone_64 ?_
          refine q_ifz_eq hc 72 dX5_isDone_65 (by decide) (fun c7 => ?_) (fun c7 => ?_)
          · refine q_iconstN hc 0 dX5_isDone_72 rfl ?_
            refine q_istore_n hc [(1, .int (iZ ((0 : Nat) : Int))), (0, .ref (ad 66)), (2, .int (iZ ((j : Nat) : Int)))] dX5_isDone_73 rfl (by decide) rfl ?_
            refine q_iincN (q := 2) hc 1 [(2, .int (iZ ((j + 1 : Nat) : Int))), (1, .int (iZ ((0 : Nat) : Int))), (0, .ref (ad 66))] dX5_isDone_74 rfl rfl (by decide) rfl ?_
            refine q_goto hc 37 dX5_isDone_77 (by decide) ?_
            refine V.sub [2, 1, 0] rfl ?_
            exact ih37 (j + 1, false) (by omega) ⟨(by omega), (by rw [show q2 = true from c5] at hq2; have e8 : rl j = -1 := (by have e7 := of_decide_eq_false (show decide (¬ rl j = -1) = false from c7); omega); show false = (q && !(anyB _ j || (decide (2 ≤ pn j) && decide (rl j = -1)))); rw [Bool.not_or, ← Bool.and_assoc, ← hq2, decide_eq_true (show 2 ≤ pn j by omega), decide_eq_true e8]; rfl)⟩
          · refine q_iconstN hc 1 dX5_isDone_68 rfl ?_
            refine q_goto hc 73 dX5_isDone_69 (by decide) ?_
            refine q_istore_n hc [(1, .int (iZ ((1 : Nat) : Int))), (0, .ref (ad 66)), (2, .int (iZ ((j : Nat) : Int)))] dX5_isDone_73 rfl (by decide) rfl ?_
            refine q_iincN (q := 2) hc 1 [(2, .int (iZ ((j + 1 : Nat) : Int))), (1, .int (iZ ((1 : Nat) : Int))), (0, .ref (ad 66))] dX5_isDone_74 rfl rfl (by decide) rfl ?_
            refine q_goto hc 37 dX5_isDone_77 (by decide) ?_
            refine V.sub [2, 1, 0] rfl ?_
            exact ih37 (j + 1, true) (by omega) ⟨(by omega), (by rw [show q2 = true from c5] at hq2; have e8 : ¬ rl j = -1 := of_decide_eq_true (show decide (¬ rl j = -1) = true from c7); show true = (q && !(anyB _ j || (decide (2 ≤ pn j) && decide (rl j = -1)))); rw [Bool.not_or, ← Bool.and_assoc, ← hq2, decide_eq_false e8, Bool.and_false]; rfl)⟩
  · refine q_iload_n hc 1 dX5_isDone_11 rfl ?_
    refine q_ifz_eq hc 27 dX5_isDone_12 (by decide) (fun c8 => ?_) (fun c8 => ?_)
    · refine q_iconstN hc 0 dX5_isDone_27 rfl ?_
      refine q_istore_n hc [(1, .int (iZ ((0 : Nat) : Int))), (0, .ref (ad 66)), (2, .int (iZ ((i : Nat) : Int)))] dX5_isDone_28 rfl (by decide) rfl ?_
      refine q_iincN (q := 2) hc 1 [(2, .int (iZ ((i + 1 : Nat) : Int))), (1, .int (iZ ((0 : Nat) : Int))), (0, .ref (ad 66))] dX5_isDone_29 rfl rfl (by decide) rfl ?_
      refine q_goto hc 4 dX5_isDone_32 (by decide) ?_
      refine V.sub [2, 1, 0] rfl ?_
      exact ih4 (i + 1, false) (by omega) ⟨(by omega), (by have h9 := hq; rw [c8] at h9; show false = !(anyB _ i || decide (0 < mA n 0 (fun k => us k - cap k) i)); rw [Bool.not_or, ← h9]; rfl)⟩
    · refine q_aload_n hc 0 dX5_isDone_15 rfl ?_
      refine q_iload_n hc 2 dX5_isDone_16 rfl ?_
      refine q_callPn (As := [.int (iZ ((i : Nat) : Int))]) (rest := []) hc (c_X5_over l D K ws ad w h n th nc rc i c0 cap _ ro h66 m67 m72 (by omega) hnc hUC hc0 hcap hus) (cwV 1 hc.1.2.2.2.2 gX5_isDone_X5_over rfl rfl rfl (by decide +kernel) ⟨Nat.le_of_ble_eq_true rfl, Nat.le_of_ble_eq_true rfl⟩) 66 h66 rfl rfl rfl (by decide) dX5_isDone_17 ⟨Nat.zero_le _, Nat.zero_le _⟩ ?_
      have u3 := mA_bd (z := 0) (show ∀ k, k < 2 * n → us k - cap k ≤ 12 from fun k hk => by have := hus k hk; omega) (by omega) (show i < 128 by omega)
      refine q_if_ne hc 27 dX5_isDone_20 (by decide) (by omega) (fun c11 => ?_) (fun c11 => ?_)
      · refine q_iconstN hc 0 dX5_isDone_27 rfl ?_
        refine q_istore_n hc [(1, .int (iZ ((0 : Nat) : Int))), (0, .ref (ad 66)), (2, .int (iZ ((i : Nat) : Int)))] dX5_isDone_28 rfl (by decide) rfl ?_
        refine q_iincN (q := 2) hc 1 [(2, .int (iZ ((i + 1 : Nat) : Int))), (1, .int (iZ ((0 : Nat) : Int))), (0, .ref (ad 66))] dX5_isDone_29 rfl rfl (by decide) rfl ?_
        refine q_goto hc 4 dX5_isDone_32 (by decide) ?_
        refine V.sub [2, 1, 0] rfl ?_
        exact ih4 (i + 1, false) (by omega) ⟨(by omega), (by have h9 := hq; rw [c8] at h9; show false = !(anyB _ i || decide (0 < mA n 0 (fun k => us k - cap k) i)); rw [Bool.not_or, ← h9, decide_eq_true (by omega)]; rfl)⟩
      · refine q_iconstN hc 1 dX5_isDone_23 rfl ?_
        refine q_goto hc 28 dX5_isDone_24 (by decide) ?_
        refine q_istore_n hc [(1, .int (iZ ((1 : Nat) : Int))), (0, .ref (ad 66)), (2, .int (iZ ((i : Nat) : Int)))] dX5_isDone_28 rfl (by decide) rfl ?_
        refine q_iincN (q := 2) hc 1 [(2, .int (iZ ((i + 1 : Nat) : Int))), (1, .int (iZ ((1 : Nat) : Int))), (0, .ref (ad 66))] dX5_isDone_29 rfl rfl (by decide) rfl ?_
        refine q_goto hc 4 dX5_isDone_32 (by decide) ?_
        refine V.sub [2, 1, 0] rfl ?_
        exact ih4 (i + 1, true) (by omega) ⟨(by omega), (by have h9 := hq; rw [c8] at h9; show true = !(anyB _ i || decide (0 < mA n 0 (fun k => us k - cap k) i)); rw [Bool.not_or, ← h9, decide_eq_false (by omega)]; rfl)⟩

set_option maxRecDepth 100000 in
set_option maxHeartbeats 4000000 in
theorem c_X5_forget (l : Launch) (D : va_G) (K : Nat → ClassId) (ws : va_W) (ad : Nat → Nat) (w h n th nc rc : Nat) (hi : Nat → Nat) (h66 : ws[66]? = some (ad 66, mO ad w h th nc rc)) (m68 : ws[68]? = some (ad 68, iN K 128 (mA n 0 hi))) (hn : n ≤ 64) (hhi : ∀ k, k < 2 * n → hi k ≤ 5120) : MMl l yX5_forget wsX5_forget ({ frames := 0, cells := 0, slots := 0, locals := 0 }) D K ws [.ref (ad 66)] (fun r u => (r = (jZ ((sm hi (2 * n) : Nat) : Int))) ∧ (u[66]? = some (ad 66, mO ad w h 0 nc rc)) ∧ (u[68]? = some (ad 68, iN K 128 (mA n 0 (fun _ => 0)))) ∧ (Fr (fun j => j = 66 ∨ j = 68) ws u)) := by
  refine q_entMl RX5 [(0, .ref (ad 66))] (by decide) rfl rfl (Nat.le_of_ble_eq_true rfl) rfl ?_
  intro p e s m args below meth c hc hr hlk
  have i5 : ∀ w ∈ u_ws RX5 TX5 16, w ∈ wsX5_forget := by decide +kernel
  have f52 := hc.1.2.2.2.2 (.fieldLink RX5 52 "GlobalRoutesModel" "thrown" "I") (by decide +kernel)
  have f13 := hc.1.2.2.2.2 (.fieldLink RX5 13 "GlobalRoutesModel" "histories" "[I") (by decide +kernel)
  have fr0 : Fr (fun j => j = 66 ∨ j = 68) ws ws := Fr.rfl
  refine q_aload_n hc 0 dX5_forget_0 rfl ?_
  refine q_iconstN hc 0 dX5_forget_1 rfl ?_
  refine q_put (ty := .int) hc 66 0 i5 tyX5 tyX5_ok nmX5 h66 rfl (by decide) f52 rfl rfl (by decide +kernel) rfl rfl (Nat.le_of_ble_eq_true rfl) rfl dX5_forget_2 (fun u1 hn' hf' => ?_)
  have hq2 : u1[66]? = some (ad 66, mO ad w h 0 nc rc) := hn'
  have hq3 := (hf' 68 (by omega)).trans m68
  have fr4 := Fr.one hf'
  refine q_lconst (z := 0) hc dX5_forget_5 (by decide +kernel) ?_
  refine q_lstore_n hc [(1, .long (jZ 0)), (0, .ref (ad 66))] dX5_forget_6 rfl (by decide) rfl ?_
  refine q_iconstN hc 0 dX5_forget_7 rfl ?_
  refine q_istore_n hc [(3, .int (iZ ((0 : Nat) : Int))), (1, .long (jZ 0)), (0, .ref (ad 66))] dX5_forget_8 rfl (by decide) rfl ?_
  refine V.sub [2, 1, 0] rfl ?_
  refine V.loop (α := Nat × Nat × (Nat → Nat)) (fun x => 128 - x.1) (fun x u => (x.1 ≤ 128) ∧ (x.2.1 = sm (mA n 0 hi) x.1) ∧ (∀ k, x.2.2 k = if k < x.1 then 0 else mA n 0 hi k) ∧ (u[68]? = some (ad 68, iN K 128 x.2.2)) ∧ (Fr (fun j => j = 68) u1 u)) (fun x => [(0, .ref (ad 66)), (1, .long (jZ ((x.2.1 : Nat) : Int))), (3, .int (iZ ((x.1 : Nat) : Int)))]) (0, 0, mA n 0 hi) ⟨(Nat.zero_le _), (rfl), (fun k => by simp), (hq3), (Fr.rfl)⟩ rfl ?_
  intro x ih9 u5 hI
  obtain ⟨i, a, f⟩ := x
  try dsimp only at ih9 hI ⊢
  obtain ⟨hi0, ha, hf, hq6, fr7⟩ := hI
  have hq8 := (fr7.at 66 (by omega)).trans hq2
  refine q_iload_n hc 2 dX5_forget_9 rfl ?_
  refine q_sipushN hc 128 dX5_forget_10 (by decide +kernel) ?_
  refine q_icmpN_ge hc 39 dX5_forget_13 (by decide) (by omega) (by omega) (fun c9 => ?_) (fun c9 => ?_)
  · obtain rfl : i = 128 := by omega
    refine q_norm_iN (g := mA n 0 (fun _ => 0)) hc 68 hq6 (fun k hk => by rw [hf k, if_pos hk]; unfold mA; split <;> rfl) (fun u10 hn' hf' => ?_)
    have hq11 : u10[68]? = some (ad 68, iN K 128 (mA n 0 (fun _ => 0))) := hn'
    have hq12 := (hf' 66 (by omega)).trans hq8
    have fr13 := Fr.one hf'
    refine q_lload_n hc 1 dX5_forget_39 rfl ?_
    exact q_lretM (z := ((a : Nat) : Int)) hc (⟨congrArg jZ (by rw [ha, sm_ub hn]), hq12, hq11, (((fr0.trans fr4 (fun _ _ => by omega)).trans fr7 (fun _ _ => by omega)).trans fr13 (fun _ _ => by omega))⟩) hr hlk dX5_forget_40
  · refine q_lload_n hc 1 dX5_forget_16 rfl ?_
    refine q_aload_n hc 0 dX5_forget_17 rfl ?_
    refine q_get hc 66 4 i5 hq8 rfl (by decide) f13 rfl rfl dX5_forget_18 ?_
    refine q_iload_n hc 2 dX5_forget_21 rfl ?_
    refine q_ialdN (j := i) hc 68 hq6 rfl (by omega) (by omega) dX5_forget_22 ?_
    have e8 : f i = mA n 0 hi i := by rw [hf i, if_neg (by omega)]
    have hb9 := mA_bd (z := 0) hhi (by omega) (show i < 128 by omega)
    refine q_i2l hc dX5_forget_23 (by omega) ?_
    refine q_ladd hc dX5_forget_24 ?_
    refine V.topj (show _ = ((a + mA n 0 hi i : Nat) : Int) from by rw [e8]; omega) ?_
    refine q_lstore_n hc [(1, .long (jZ ((a + mA n 0 hi i : Nat) : Int))), (0, .ref (ad 66)), (3, .int (iZ ((i : Nat) : Int)))] dX5_forget_25 rfl (by decide) rfl ?_
    refine q_aload_n hc 1 dX5_forget_26 rfl ?_
    refine q_get hc 66 4 i5 hq8 rfl (by decide) f13 rfl rfl dX5_forget_27 ?_
    refine q_iload_n hc 2 dX5_forget_30 rfl ?_
    refine q_iconstN hc 0 dX5_forget_31 rfl ?_
    refine q_iastN (j := i) (x := 0) hc 68 hq6 rfl (by omega) (by omega) dX5_forget_32 (fun u14 hn' hf' => ?_)
    have hq15 : u14[68]? = some (ad 68, iN K 128 (va_up f i 0)) := hn'
    have hq16 := (hf' 66 (by omega)).trans hq8
    have fr17 := Fr.one hf'
    refine q_iincN (q := 2) hc 1 [(3, .int (iZ ((i + 1 : Nat) : Int))), (1, .long (jZ ((a + mA n 0 hi i : Nat) : Int))), (0, .ref (ad 66))] dX5_forget_33 rfl rfl (by decide) rfl ?_
    refine q_goto hc 9 dX5_forget_36 (by decide) ?_
    refine V.sub [2, 1, 0] rfl ?_
    exact ih9 (i + 1, a + mA n 0 hi i, va_up f i 0) _ (by omega) ⟨(by omega), (by rw [sm_s, ha]), (upd_hf (g := fun _ => 0) hf), (hq15), ((fr7.trans fr17 (fun _ _ => by omega)))⟩
