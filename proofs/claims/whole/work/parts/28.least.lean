
set_option maxRecDepth 100000 in
set_option maxHeartbeats 4000000 in
theorem c_X2_lowerFrom (l : Launch) (D : va_G) (K : Nat → ClassId) (ws : va_W) (ad : Nat → Nat) (pa q d0 : Nat) (w h n : Nat) (f : Nat → Nat) (nb bt : Nat → Option Nat) (h1 : ws[1]? = some (ad 1, gO ad w h n)) (h5 : ws[5]? = some (ad 5, iA K (4 * n) (fun k => oZ (nb k)))) (h11 : ws[11]? = some (ad 11, tO ad)) (hA : ws[pa]? = some (ad pa, iN K n f)) (hn : n ≤ 64) (hpa : 13 ≤ pa) (hq : q < n) (hd0 : d0 < 4) (hNB : NB n nb bt) (hfb : ∀ k, f k ≤ 1000000000) : MMv l yX2_lowerFrom wsX2_lowerFrom ({ frames := 1, cells := 0, slots := 0, locals := 21 }) D K ws [.ref (ad 11), .ref (ad pa), .int (iZ ((q : Nat) : Int)), .int (iZ ((d0 : Nat) : Int))] (fun u => (u[pa]? = some (ad pa, iN K n (lwF nb f q d0))) ∧ (Fr (fun j => j = pa) ws u)) := by
  refine q_entMv RX2 [(0, .ref (ad 11)), (1, .ref (ad pa)), (2, .int (iZ ((q : Nat) : Int))), (3, .int (iZ ((d0 : Nat) : Int)))] (by decide) rfl rfl (Nat.le_of_ble_eq_true rfl) rfl ?_
  intro p e s m args below meth c hc hr hlk
  have i2 : ∀ w ∈ u_ws RX2 TX2 2, w ∈ wsX2_lowerFrom := by decide +kernel
  have f9 := hc.1.2.2.2.2 (.fieldLink RX2 9 "GlobalRoutes$LeastTable" "grid" "LGlobalRoutes$Grid;") (by decide +kernel)
  have i0 : ∀ w ∈ u_ws RX0 TX0 9, w ∈ wsX2_lowerFrom := by decide +kernel
  have f86 := hc.1.2.2.2.2 (.fieldLink RX2 86 "GlobalRoutes$Grid" "neighbours" "[I") (by decide +kernel)
  have wa78 : Cond.methodLink RX2 78 Lib.Math.min.name ∈ wsX2_lowerFrom := by decide +kernel
  have wbmin : Cond.static Lib.Math.min.name ∈ wsX2_lowerFrom := by decide +kernel
  have wc : Cond.initialized "java/lang/Math" ∈ wsX2_lowerFrom := by decide +kernel
  have wdmin : Cond.code Lib.Math.min.name Lib.Math.min.code 2 (some .int) ∈ wsX2_lowerFrom := by decide +kernel
  have fr0 : Fr (fun j => j = pa) ws ws := Fr.rfl
  refine q_aload_n hc 0 dX2_lowerFrom_0 rfl ?_
  refine q_get hc 11 0 i2 h11 rfl (by decide) f9 rfl rfl dX2_lowerFrom_1 ?_
  refine q_get hc 1 7 i0 h1 rfl (by decide) f86 rfl rfl dX2_lowerFrom_4 ?_
  refine q_iconstN hc 4 dX2_lowerFrom_7 rfl ?_
  refine q_iload_n hc 2 dX2_lowerFrom_8 rfl ?_
  refine q_imulN hc dX2_lowerFrom_9 ?_
  refine q_iload_n hc 3 dX2_lowerFrom_10 rfl ?_
  refine q_iaddN hc dX2_lowerFrom_11 ?_
  refine q_iald (j := 4 * q + d0) hc 5 h5 rfl (by omega) (by omega) dX2_lowerFrom_12 ?_
  refine q_istore hc [(4, .int (iZ ((fun k => oZ (nb k)) (4 * q + d0)))), (0, .ref (ad 11)), (1, .ref (ad pa)), (2, .int (iZ ((q : Nat) : Int))), (3, .int (iZ ((d0 : Nat) : Int)))] dX2_lowerFrom_13 (by decide) rfl ?_
  refine q_iload hc 0 dX2_lowerFrom_15 rfl ?_
  rcases hNB (4 * q + d0) with hu | ⟨u, b, hu, hb, hu1, hb1⟩
  · refine V.topi (show _ = -1 from by show oZ (nb (4 * q + d0)) = _; rw [hu]; rfl) ?_
    refine q_iconst hc dX2_lowerFrom_17 ?_
    refine q_icmp_eq hc 36 dX2_lowerFrom_18 (by decide) (by omega) (by omega) (fun c1 => ?_) (fun c1 => ?_)
    · refine q_norm_iN (g := lwF nb f q d0) hc pa hA (fun k9 _ => by rw [lwF_none hu]) (fun u2 hn' hf' => ?_)
      have hq3 : u2[pa]? = some (ad pa, iN K n (lwF nb f q d0)) := hn'
      have hq4 := (hf' 1 (by omega)).trans h1
      have hq5 := (hf' 5 (by omega)).trans h5
      have hq6 := (hf' 11 (by omega)).trans h11
      have fr7 := Fr.one hf'
      exact q_vretM hc (⟨hq3, (fr0.trans fr7 (fun _ _ => by omega))⟩) hr hlk dX2_lowerFrom_36
    · exact absurd rfl c1
  · refine V.topi (show _ = ((u : Nat) : Int) from by show oZ (nb (4 * q + d0)) = _; rw [hu]; rfl) ?_
    refine V.lve (show ([(4, .int (iZ ((fun k => oZ (nb k)) (4 * q + d0)))), (0, .ref (ad 11)), (1, .ref (ad pa)), (2, .int (iZ ((q : Nat) : Int))), (3, .int (iZ ((d0 : Nat) : Int)))] : List (Nat × Value)) = [(4, .int (iZ ((u : Nat) : Int))), (0, .ref (ad 11)), (1, .ref (ad pa)), (2, .int (iZ ((q : Nat) : Int))), (3, .int (iZ ((d0 : Nat) : Int)))] from by rw [show ((fun k => oZ (nb k)) (4 * q + d0) : Int) = ((u : Nat) : Int) from by show oZ (nb (4 * q + d0)) = _; rw [hu]; rfl]) ?_
    refine q_iconst hc dX2_lowerFrom_17 ?_
    refine q_icmp_eq hc 36 dX2_lowerFrom_18 (by decide) (by omega) (by omega) (fun c8 => ?_) (fun c8 => ?_)
    · exact absurd c8 (by omega)
    · refine q_aload_n hc 2 dX2_lowerFrom_21 rfl ?_
      refine q_iload_n hc 3 dX2_lowerFrom_22 rfl ?_
      refine q_aload_n hc 2 dX2_lowerFrom_23 rfl ?_
      refine q_iload_n hc 3 dX2_lowerFrom_24 rfl ?_
      refine q_ialdN (j := q) hc pa hA rfl (by omega) (by omega) dX2_lowerFrom_25 ?_
      have hb9 := hfb q
      refine q_aload_n hc 2 dX2_lowerFrom_26 rfl ?_
      refine q_iload hc 0 dX2_lowerFrom_27 rfl ?_
      refine q_ialdN (j := u) hc pa hA rfl (by omega) (by omega) dX2_lowerFrom_29 ?_
      have hb10 := hfb u
      refine q_iconstN hc 1 dX2_lowerFrom_30 rfl ?_
      refine q_iaddN hc dX2_lowerFrom_31 ?_
      refine q_mminN hc wa78 wbmin wc wdmin (by decide) (by simp [Value.category]) ⟨Nat.zero_le _, Nat.zero_le _⟩ (by omega) (by omega) dX2_lowerFrom_32 ?_
      refine q_iastN (j := q) (x := if f u + 1 < f q then f u + 1 else f q) hc pa hA rfl (by omega) (by omega) dX2_lowerFrom_35 (fun u11 hn' hf' => ?_)
      have hq12 : u11[pa]? = some (ad pa, iN K n (va_up f q (if f u + 1 < f q then f u + 1 else f q))) := hn'
      have hq13 := (hf' 1 (by omega)).trans h1
      have hq14 := (hf' 5 (by omega)).trans h5
      have hq15 := (hf' 11 (by omega)).trans h11
      have fr16 := Fr.one hf'
      refine q_norm_iN (g := lwF nb f q d0) hc pa hq12 (fun k9 _ => by rw [lwF_some hu]) (fun u17 hn' hf' => ?_)
      have hq18 : u17[pa]? = some (ad pa, iN K n (lwF nb f q d0)) := hn'
      have hq19 := (hf' 1 (by omega)).trans hq13
      have hq20 := (hf' 5 (by omega)).trans hq14
      have hq21 := (hf' 11 (by omega)).trans hq15
      have fr22 := Fr.one hf'
      exact q_vretM hc (⟨hq18, ((fr0.trans fr16 (fun _ _ => by omega)).trans fr22 (fun _ _ => by omega))⟩) hr hlk dX2_lowerFrom_36

set_option maxRecDepth 100000 in
set_option maxHeartbeats 4000000 in
theorem c_X2_takeLower (l : Launch) (D : va_G) (K : Nat → ClassId) (ws : va_W) (ad : Nat → Nat) (pa pb pd : Nat) (w h n : Nat) (f g1 g2 : Nat → Nat) (h1 : ws[1]? = some (ad 1, gO ad w h n)) (h11 : ws[11]? = some (ad 11, tO ad)) (hA : ws[pa]? = some (ad pa, iN K n f)) (hB : ws[pb]? = some (ad pb, iN K n g1)) (hC : ws[pd]? = some (ad pd, iN K n g2)) (hn : n ≤ 64) (hpa : 13 ≤ pa) (hpb : pb ≠ pa ∧ pd ≠ pa) (hfb : ∀ k, f k ≤ 1000000000) (hg1 : ∀ k, g1 k ≤ 1000000000) (hg2 : ∀ k, g2 k ≤ 1000000000) : MMv l yX2_takeLower wsX2_takeLower ({ frames := 1, cells := 0, slots := 0, locals := 21 }) D K ws [.ref (ad 11), .ref (ad pa), .ref (ad pb), .ref (ad pd)] (fun u => (u[pa]? = some (ad pa, iN K n (tkL f g1 g2))) ∧ (Fr (fun j => j = pa) ws u)) := by
  refine q_entMv RX2 [(0, .ref (ad 11)), (1, .ref (ad pa)), (2, .ref (ad pb)), (3, .ref (ad pd))] (by decide) rfl rfl (Nat.le_of_ble_eq_true rfl) rfl ?_
  intro p e s m args below meth c hc hr hlk
  have i2 : ∀ w ∈ u_ws RX2 TX2 2, w ∈ wsX2_takeLower := by decide +kernel
  have f9 := hc.1.2.2.2.2 (.fieldLink RX2 9 "GlobalRoutes$LeastTable" "grid" "LGlobalRoutes$Grid;") (by decide +kernel)
  have i0 : ∀ w ∈ u_ws RX0 TX0 9, w ∈ wsX2_takeLower := by decide +kernel
  have f15 := hc.1.2.2.2.2 (.fieldLink RX2 15 "GlobalRoutes$Grid" "cells" "I") (by decide +kernel)
  have wa78 : Cond.methodLink RX2 78 Lib.Math.min.name ∈ wsX2_takeLower := by decide +kernel
  have wbmin : Cond.static Lib.Math.min.name ∈ wsX2_takeLower := by decide +kernel
  have wc : Cond.initialized "java/lang/Math" ∈ wsX2_takeLower := by decide +kernel
  have wdmin : Cond.code Lib.Math.min.name Lib.Math.min.code 2 (some .int) ∈ wsX2_takeLower := by decide +kernel
  have fr0 : Fr (fun j => j = pa) ws ws := Fr.rfl
  refine q_iconstN hc 0 dX2_takeLower_0 rfl ?_
  refine q_istore hc [(4, .int (iZ ((0 : Nat) : Int))), (0, .ref (ad 11)), (1, .ref (ad pa)), (2, .ref (ad pb)), (3, .ref (ad pd))] dX2_takeLower_1 (by decide) rfl ?_
  refine V.sub [1, 2, 3, 4, 0] rfl ?_
  refine V.loop (α := Nat × (Nat → Nat)) (fun x => n - x.1) (fun x u => (x.1 ≤ n) ∧ (∀ k, x.2 k = if k < x.1 then tkL f g1 g2 k else f k) ∧ (u[pa]? = some (ad pa, iN K n x.2)) ∧ (Fr (fun j => j = pa) ws u)) (fun x => [(0, .ref (ad 11)), (1, .ref (ad pa)), (2, .ref (ad pb)), (3, .ref (ad pd)), (4, .int (iZ ((x.1 : Nat) : Int)))]) (0, f) ⟨(Nat.zero_le _), (fun k => by simp), (hA), (Fr.rfl)⟩ rfl ?_
  intro x ih3 u1 hI
  obtain ⟨i, f1⟩ := x
  try dsimp only at ih3 hI ⊢
  obtain ⟨hi0, hf, hq2, fr3⟩ := hI
  have hq4 := (fr3.at 1 (by omega)).trans h1
  have hq5 := (fr3.at 11 (by omega)).trans h11
  have hq6 := (fr3.at pb (by omega)).trans hB
  have hq7 := (fr3.at pd (by omega)).trans hC
  refine q_iload hc 4 dX2_takeLower_3 rfl ?_
  refine q_aload_n hc 0 dX2_takeLower_5 rfl ?_
  refine q_get hc 11 0 i2 hq5 rfl (by decide) f9 rfl rfl dX2_takeLower_6 ?_
  refine q_get hc 1 2 i0 hq4 rfl (by decide) f15 rfl rfl dX2_takeLower_9 ?_
  refine q_icmpN_ge hc 41 dX2_takeLower_12 (by decide) (by omega) (by omega) (fun c8 => ?_) (fun c8 => ?_)
  · refine q_norm_iN (g := tkL f g1 g2) hc pa hq2 (fun k hk => by rw [hf k, if_pos (by omega)]) (fun u9 hn' hf' => ?_)
    have hq10 : u9[pa]? = some (ad pa, iN K n (tkL f g1 g2)) := hn'
    have hq11 := (hf' 1 (by omega)).trans hq4
    have hq12 := (hf' 11 (by omega)).trans hq5
    have hq13 := (hf' pb (by omega)).trans hq6
    have hq14 := (hf' pd (by omega)).trans hq7
    have fr15 := Fr.one hf'
    exact q_vretM hc (⟨hq10, ((fr0.trans fr3 (fun _ _ => by omega)).trans fr15 (fun _ _ => by omega))⟩) hr hlk dX2_takeLower_41
  · refine q_aload_n hc 1 dX2_takeLower_15 rfl ?_
    refine q_iload hc 4 dX2_takeLower_16 rfl ?_
    refine q_aload_n hc 1 dX2_takeLower_18 rfl ?_
    refine q_iload hc 4 dX2_takeLower_19 rfl ?_
    refine q_ialdN (j := i) hc pa hq2 rfl (by omega) (by omega) dX2_takeLower_21 ?_
    have e8 : f1 i = f i := by rw [hf i, if_neg (by omega)]
    refine q_aload_n hc 2 dX2_takeLower_22 rfl ?_
    refine q_iload hc 4 dX2_takeLower_23 rfl ?_
    refine q_ialdN (j := i) hc pb hq6 rfl (by omega) (by omega) dX2_takeLower_25 ?_
    refine q_aload_n hc 3 dX2_takeLower_26 rfl ?_
    refine q_iload hc 4 dX2_takeLower_27 rfl ?_
    refine q_ialdN (j := i) hc pd hq7 rfl (by omega) (by omega) dX2_takeLower_29 ?_
    refine q_iaddN hc dX2_takeLower_30 ?_
    have hb9 := hfb i; have hb8 := hg1 i; have hb7 := hg2 i
    refine q_mminN hc wa78 wbmin wc wdmin (by decide) (by simp [Value.category]) ⟨Nat.zero_le _, Nat.zero_le _⟩ (by omega) (by omega) dX2_takeLower_31 ?_
    refine V.topi (show _ = ((tkL f g1 g2 i : Nat) : Int) from by rw [e8]; rfl) ?_
    refine q_iastN (j := i) (x := tkL f g1 g2 i) hc pa hq2 rfl (by omega) (by omega) dX2_takeLower_34 (fun u16 hn' hf' => ?_)
    have hq17 : u16[pa]? = some (ad pa, iN K n (va_up f1 i (tkL f g1 g2 i))) := hn'
    have hq18 := (hf' 1 (by omega)).trans hq4
    have hq19 := (hf' 11 (by omega)).trans hq5
    have hq20 := (hf' pb (by omega)).trans hq6
    have hq21 := (hf' pd (by omega)).trans hq7
    have fr22 := Fr.one hf'
    refine q_iincN (q := 4) hc 1 [(4, .int (iZ ((i + 1 : Nat) : Int))), (0, .ref (ad 11)), (1, .ref (ad pa)), (2, .ref (ad pb)), (3, .ref (ad pd))] dX2_takeLower_35 rfl rfl (by decide) rfl ?_
    refine q_goto hc 3 dX2_takeLower_38 (by decide) ?_
    refine V.sub [1, 2, 3, 4, 0] rfl ?_
    exact ih3 (i + 1, va_up f1 i (tkL f g1 g2 i)) _ (by omega) ⟨(by omega), (upd_hf hf), (hq17), ((fr3.trans fr22 (fun _ _ => by omega)))⟩

set_option maxRecDepth 100000 in
set_option maxHeartbeats 4000000 in
theorem c_X2_fillFromPin (l : Launch) (D : va_G) (K : Nat → ClassId) (ws : va_W) (ad : Nat → Nat) (pa q : Nat) (w h n : Nat) (f : Nat → Nat) (h1 : ws[1]? = some (ad 1, gO ad w h n)) (h11 : ws[11]? = some (ad 11, tO ad)) (hA : ws[pa]? = some (ad pa, iN K n f)) (hn : n ≤ 64) (hw : 0 < w ∧ w ≤ 8 ∧ h ≤ 8) (hpa : 13 ≤ pa) (hq : q < 64) : MMv l yX2_fillFromPin wsX2_fillFromPin ({ frames := 1, cells := 0, slots := 0, locals := 21 }) D K ws [.ref (ad 11), .ref (ad pa), .int (iZ ((q : Nat) : Int))] (fun u => (u[pa]? = some (ad pa, iN K n (mhF w n q))) ∧ (Fr (fun j => j = pa) ws u)) := by
  refine q_entMv RX2 [(0, .ref (ad 11)), (1, .ref (ad pa)), (2, .int (iZ ((q : Nat) : Int)))] (by decide) rfl rfl (Nat.le_of_ble_eq_true rfl) rfl ?_
  intro p e s m args below meth c hc hr hlk
  have i2 : ∀ w ∈ u_ws RX2 TX2 2, w ∈ wsX2_fillFromPin := by decide +kernel
  have f9 := hc.1.2.2.2.2 (.fieldLink RX2 9 "GlobalRoutes$LeastTable" "grid" "LGlobalRoutes$Grid;") (by decide +kernel)
  have i0 : ∀ w ∈ u_ws RX0 TX0 9, w ∈ wsX2_fillFromPin := by decide +kernel
  have f15 := hc.1.2.2.2.2 (.fieldLink RX2 15 "GlobalRoutes$Grid" "cells" "I") (by decide +kernel)
  have wa60 : Cond.methodLink RX2 60 Lib.Math.abs.name ∈ wsX2_fillFromPin := by decide +kernel
  have wbabs : Cond.static Lib.Math.abs.name ∈ wsX2_fillFromPin := by decide +kernel
  have wc : Cond.initialized "java/lang/Math" ∈ wsX2_fillFromPin := by decide +kernel
  have wdabs : Cond.code Lib.Math.abs.name Lib.Math.abs.code 1 (some .int) ∈ wsX2_fillFromPin := by decide +kernel
  have fr0 : Fr (fun j => j = pa) ws ws := Fr.rfl
  refine q_iconstN hc 0 dX2_fillFromPin_0 rfl ?_
  refine q_istore_n hc [(3, .int (iZ ((0 : Nat) : Int))), (0, .ref (ad 11)), (1, .ref (ad pa)), (2, .int (iZ ((q : Nat) : Int)))] dX2_fillFromPin_1 rfl (by decide) rfl ?_
  refine V.sub [1, 2, 3, 0] rfl ?_
  refine V.loop (α := Nat × (Nat → Nat)) (fun x => n - x.1) (fun x u => (x.1 ≤ n) ∧ (∀ k, x.2 k = if k < x.1 then mh w k q else f k) ∧ (u[pa]? = some (ad pa, iN K n x.2)) ∧ (Fr (fun j => j = pa) ws u)) (fun x => [(0, .ref (ad 11)), (1, .ref (ad pa)), (2, .int (iZ ((q : Nat) : Int))), (3, .int (iZ ((x.1 : Nat) : Int)))]) (0, f) ⟨(Nat.zero_le _), (fun k => by simp), (hA), (Fr.rfl)⟩ rfl ?_
  intro x ih2 u1 hI
  obtain ⟨i, f1⟩ := x
  try dsimp only at ih2 hI ⊢
  obtain ⟨hi0, hf, hq2, fr3⟩ := hI
  have hq4 := (fr3.at 1 (by omega)).trans h1
  have hq5 := (fr3.at 11 (by omega)).trans h11
  refine q_iload_n hc 3 dX2_fillFromPin_2 rfl ?_
  refine q_aload_n hc 0 dX2_fillFromPin_3 rfl ?_
  refine q_get hc 11 0 i2 hq5 rfl (by decide) f9 rfl rfl dX2_fillFromPin_4 ?_
  refine q_get hc 1 2 i0 hq4 rfl (by decide) f15 rfl rfl dX2_fillFromPin_7 ?_
  refine q_icmpN_ge hc 63 dX2_fillFromPin_10 (by decide) (by omega) (by omega) (fun c6 => ?_) (fun c6 => ?_)
  · refine q_norm_iN (g := mhF w n q) hc pa hq2 (fun k hk => by rw [hf k, if_pos (by omega), mhF, if_pos hk]) (fun u7 hn' hf' => ?_)
    have hq8 : u7[pa]? = some (ad pa, iN K n (mhF w n q)) := hn'
    have hq9 := (hf' 1 (by omega)).trans hq4
    have hq10 := (hf' 11 (by omega)).trans hq5
    have fr11 := Fr.one hf'
    exact q_vretM hc (⟨hq8, ((fr0.trans fr3 (fun _ _ => by omega)).trans fr11 (fun _ _ => by omega))⟩) hr hlk dX2_fillFromPin_63
  · refine q_aload_n hc 1 dX2_fillFromPin_13 rfl ?_
    refine q_iload_n hc 3 dX2_fillFromPin_14 rfl ?_
    refine q_aload_n hc 0 dX2_fillFromPin_15 rfl ?_
    refine q_get hc 11 0 i2 hq5 rfl (by decide) f9 rfl rfl dX2_fillFromPin_16 ?_
    refine q_iload_n hc 3 dX2_fillFromPin_19 rfl ?_
    refine q_callPn (As := [.int (iZ ((i : Nat) : Int))]) (rest := [.int (iZ ((i : Nat) : Int)), .ref (ad pa)]) hc (c_X0_columnOf l D K u1 ad i w h n hq4 hw (by omega)) (cwV 1 hc.1.2.2.2.2 gX2_fillFromPin_X0_columnOf rfl rfl rfl (by decide +kernel) ⟨Nat.le_of_ble_eq_true rfl, Nat.le_of_ble_eq_true rfl⟩) 1 hq4 rfl rfl rfl (by simp [Value.category]) dX2_fillFromPin_20 ⟨Nat.zero_le _, Nat.zero_le _⟩ ?_
    refine q_aload_n hc 0 dX2_fillFromPin_23 rfl ?_
    refine q_get hc 11 0 i2 hq5 rfl (by decide) f9 rfl rfl dX2_fillFromPin_24 ?_
    refine q_iload_n hc 2 dX2_fillFromPin_27 rfl ?_
    refine q_callPn (As := [.int (iZ ((q : Nat) : Int))]) (rest := [.int (iZ ((i % w : Nat) : Int)), .int (iZ ((i : Nat) : Int)), .ref (ad pa)]) hc (c_X0_columnOf l D K u1 ad q w h n hq4 hw (by omega)) (cwV 1 hc.1.2.2.2.2 gX2_fillFromPin_X0_columnOf rfl rfl rfl (by decide +kernel) ⟨Nat.le_of_ble_eq_true rfl, Nat.le_of_ble_eq_true rfl⟩) 1 hq4 rfl rfl rfl (by simp [Value.category]) dX2_fillFromPin_28 ⟨Nat.zero_le _, Nat.zero_le _⟩ ?_
    have m1 := Nat.mod_lt i hw.1; have m2 := Nat.mod_lt q hw.1; have m3 := Nat.div_le_self i w; have m4 := Nat.div_le_self q w; have m5 := Int.natCast_nonneg (i / w); have m6 := Int.natCast_nonneg (q / w)
    refine q_isub hc dX2_fillFromPin_31 ?_
    refine q_mabs hc wa60 wbabs wc wdabs (by decide) (by simp [Value.category]) ⟨Nat.zero_le _, Nat.zero_le _⟩ (by omega) dX2_fillFromPin_32 ?_
    refine q_aload_n hc 0 dX2_fillFromPin_35 rfl ?_
    refine q_get hc 11 0 i2 hq5 rfl (by decide) f9 rfl rfl dX2_fillFromPin_36 ?_
    refine q_iload_n hc 3 dX2_fillFromPin_39 rfl ?_
    refine q_callPn (As := [.int (iZ ((i : Nat) : Int))]) (rest := [.int (iZ (if 0 ≤ ((i % w : Nat) : Int) - ((q % w : Nat) : Int) then ((i % w : Nat) : Int) - ((q % w : Nat) : Int) else 0 - (((i % w : Nat) : Int) - ((q % w : Nat) : Int)))), .int (iZ ((i : Nat) : Int)), .ref (ad pa)]) hc (c_X0_rowOf l D K u1 ad i w h n hq4 hw (by omega)) (cwV 1 hc.1.2.2.2.2 gX2_fillFromPin_X0_rowOf rfl rfl rfl (by decide +kernel) ⟨Nat.le_of_ble_eq_true rfl, Nat.le_of_ble_eq_true rfl⟩) 1 hq4 rfl rfl rfl (by simp [Value.category]) dX2_fillFromPin_40 ⟨Nat.zero_le _, Nat.zero_le _⟩ ?_
    refine q_aload_n hc 0 dX2_fillFromPin_43 rfl ?_
    refine q_get hc 11 0 i2 hq5 rfl (by decide) f9 rfl rfl dX2_fillFromPin_44 ?_
    refine q_iload_n hc 2 dX2_fillFromPin_47 rfl ?_
    refine q_callPn (As := [.int (iZ ((q : Nat) : Int))]) (rest := [.int (iZ ((i / w : Nat) : Int)), .int (iZ (if 0 ≤ ((i % w : Nat) : Int) - ((q % w : Nat) : Int) then ((i % w : Nat) : Int) - ((q % w : Nat) : Int) else 0 - (((i % w : Nat) : Int) - ((q % w : Nat) : Int)))), .int (iZ ((i : Nat) : Int)), .ref (ad pa)]) hc (c_X0_rowOf l D K u1 ad q w h n hq4 hw (by omega)) (cwV 1 hc.1.2.2.2.2 gX2_fillFromPin_X0_rowOf rfl rfl rfl (by decide +kernel) ⟨Nat.le_of_ble_eq_true rfl, Nat.le_of_ble_eq_true rfl⟩) 1 hq4 rfl rfl rfl (by simp [Value.category]) dX2_fillFromPin_48 ⟨Nat.zero_le _, Nat.zero_le _⟩ ?_
    refine q_isub hc dX2_fillFromPin_51 ?_
    refine q_mabs hc wa60 wbabs wc wdabs (by decide) (by simp [Value.category]) ⟨Nat.zero_le _, Nat.zero_le _⟩ (by omega) dX2_fillFromPin_52 ?_
    refine q_iadd hc dX2_fillFromPin_55 ?_
    refine V.topi (show _ = ((mh w i q : Nat) : Int) from by unfold mh; split <;> split <;> omega) ?_
    refine q_iastN (j := i) (x := mh w i q) hc pa hq2 rfl (by omega) (by omega) dX2_fillFromPin_56 (fun u20 hn' hf' => ?_)
    have hq21 : u20[pa]? = some (ad pa, iN K n (va_up f1 i (mh w i q))) := hn'
    have hq22 := (hf' 1 (by omega)).trans hq4
    have hq23 := (hf' 11 (by omega)).trans hq5
    have fr24 := Fr.one hf'
    refine q_iincN (q := 3) hc 1 [(3, .int (iZ ((i + 1 : Nat) : Int))), (0, .ref (ad 11)), (1, .ref (ad pa)), (2, .int (iZ ((q : Nat) : Int)))] dX2_fillFromPin_57 rfl rfl (by decide) rfl ?_
    refine q_goto hc 2 dX2_fillFromPin_60 (by decide) ?_
    refine V.sub [1, 2, 3, 0] rfl ?_
    exact ih2 (i + 1, va_up f1 i (mh w i q)) _ (by omega) ⟨(by omega), (upd_hf (g := fun c9 => mh w c9 q) hf), (hq21), ((fr3.trans fr24 (fun _ _ => by omega)))⟩

set_option maxRecDepth 100000 in
set_option maxHeartbeats 4000000 in
theorem c_X2_spreadRow (l : Launch) (D : va_G) (K : Nat → ClassId) (ws : va_W) (ad : Nat → Nat) (pa : Nat) (w h n : Nat) (f : Nat → Nat) (nb bt : Nat → Option Nat) (h1 : ws[1]? = some (ad 1, gO ad w h n)) (h5 : ws[5]? = some (ad 5, iA K (4 * n) (fun k => oZ (nb k)))) (h11 : ws[11]? = some (ad 11, tO ad)) (hA : ws[pa]? = some (ad pa, iN K n f)) (hn : n ≤ 64) (hpa : 13 ≤ pa) (hNB : NB n nb bt) (hfb : ∀ k, f k ≤ 1000000000) : MMv l yX2_spreadRow wsX2_spreadRow ({ frames := 2, cells := 0, slots := 0, locals := 45 }) D K ws [.ref (ad 11), .ref (ad pa)] (fun u => (u[pa]? = some (ad pa, iN K n (spR nb n f))) ∧ (Fr (fun j => j = pa) ws u)) := by
  refine q_entMv RX2 [(0, .ref (ad 11)), (1, .ref (ad pa))] (by decide) rfl rfl (Nat.le_of_ble_eq_true rfl) rfl ?_
  intro p e s m args below meth c hc hr hlk
  have i2 : ∀ w ∈ u_ws RX2 TX2 2, w ∈ wsX2_spreadRow := by decide +kernel
  have f9 := hc.1.2.2.2.2 (.fieldLink RX2 9 "GlobalRoutes$LeastTable" "grid" "LGlobalRoutes$Grid;") (by decide +kernel)
  have i0 : ∀ w ∈ u_ws RX0 TX0 9, w ∈ wsX2_spreadRow := by decide +kernel
  have f15 := hc.1.2.2.2.2 (.fieldLink RX2 15 "GlobalRoutes$Grid" "cells" "I") (by decide +kernel)
  have fr0 : Fr (fun j => j = pa) ws ws := Fr.rfl
  refine q_iconstN hc 0 dX2_spreadRow_0 rfl ?_
  refine q_istore_n hc [(2, .int (iZ ((0 : Nat) : Int))), (0, .ref (ad 11)), (1, .ref (ad pa))] dX2_spreadRow_1 rfl (by decide) rfl ?_
  refine V.sub [1, 2, 0] rfl ?_
  refine V.loop (α := Nat) (fun x => n - x) (fun x u => (x ≤ n) ∧ (u[pa]? = some (ad pa, iN K n (srU nb f x))) ∧ (Fr (fun j => j = pa) ws u)) (fun x => [(0, .ref (ad 11)), (1, .ref (ad pa)), (2, .int (iZ ((x : Nat) : Int)))]) 0 ⟨(Nat.zero_le _), (hA), (Fr.rfl)⟩ rfl ?_
  intro i ih2 u1 hI
  try dsimp only at ih2 hI ⊢
  obtain ⟨hi0, hq2, fr3⟩ := hI
  have hq4 := (fr3.at 1 (by omega)).trans h1
  have hq5 := (fr3.at 5 (by omega)).trans h5
  have hq6 := (fr3.at 11 (by omega)).trans h11
  refine q_iload_n hc 2 dX2_spreadRow_2 rfl ?_
  refine q_aload_n hc 0 dX2_spreadRow_3 rfl ?_
  refine q_get hc 11 0 i2 hq6 rfl (by decide) f9 rfl rfl dX2_spreadRow_4 ?_
  refine q_get hc 1 2 i0 hq4 rfl (by decide) f15 rfl rfl dX2_spreadRow_7 ?_
  refine q_icmpN_ge hc 33 dX2_spreadRow_10 (by decide) (by omega) (by omega) (fun c7 => ?_) (fun c7 => ?_)
  · obtain rfl : n = i := by omega
    refine q_aload_n hc 0 dX2_spreadRow_33 rfl ?_
    refine q_get hc 11 0 i2 hq6 rfl (by decide) f9 rfl rfl dX2_spreadRow_34 ?_
    refine q_get hc 1 2 i0 hq4 rfl (by decide) f15 rfl rfl dX2_spreadRow_37 ?_
    refine q_iconstN hc 1 dX2_spreadRow_40 rfl ?_
    refine q_isub hc dX2_spreadRow_41 ?_
    refine V.topi (show _ = ((n : Nat) : Int) - 1 - ((0 : Nat) : Int) from by omega) ?_
    refine q_istore_n hc [(2, .int (iZ (((n : Nat) : Int) - 1 - ((0 : Nat) : Int)))), (0, .ref (ad 11)), (1, .ref (ad pa))] dX2_spreadRow_42 rfl (by decide) rfl ?_
    refine V.sub [1, 2, 0] rfl ?_
    refine V.loop (α := Nat) (fun x => n - x) (fun x u => (x ≤ n) ∧ (u[pa]? = some (ad pa, iN K n (srD nb n (srU nb f n) x))) ∧ (Fr (fun j => j = pa) u1 u)) (fun x => [(0, .ref (ad 11)), (1, .ref (ad pa)), (2, .int (iZ (((n : Nat) : Int) - 1 - ((x : Nat) : Int))))]) 0 ⟨(Nat.zero_le _), (hq2), (Fr.rfl)⟩ rfl ?_
    intro j ih43 u8 hI
    try dsimp only at ih43 hI ⊢
    obtain ⟨hj, hq9, fr10⟩ := hI
    have hq11 := (fr10.at 1 (by omega)).trans hq4
    have hq12 := (fr10.at 5 (by omega)).trans hq5
    have hq13 := (fr10.at 11 (by omega)).trans hq6
    refine q_iload_n hc 2 dX2_spreadRow_43 rfl ?_
    refine q_if_lt hc 67 dX2_spreadRow_44 (by decide) (by omega) (fun c14 => ?_) (fun c14 => ?_)
    · obtain rfl : n = j := by omega
      exact q_vretM hc (⟨hq9, ((fr0.trans fr3 (fun _ _ => by omega)).trans fr10 (fun _ _ => by omega))⟩) hr hlk dX2_spreadRow_67
    · refine q_aload_n hc 0 dX2_spreadRow_47 rfl ?_
      refine q_aload_n hc 1 dX2_spreadRow_48 rfl ?_
      refine q_iload_n hc 2 dX2_spreadRow_49 rfl ?_
      refine V.topi (show _ = ((n - 1 - j : Nat) : Int) from by omega) ?_
      refine q_iconstN hc 2 dX2_spreadRow_50 rfl ?_
      refine q_callMv (As := [.ref (ad pa), .int (iZ ((n - 1 - j : Nat) : Int)), .int (iZ ((2 : Nat) : Int))]) (rest := []) hc (c_X2_lowerFrom l D K u8 ad pa (n - 1 - j) 2 w h n (srD nb n (srU nb f n) j) _ _ hq11 hq12 hq13 hq9 hn (by omega) (by omega) (by omega) hNB (srD_bd (srU_bd hfb n) j)) (cwV 3 hc.1.2.2.2.2 gX2_spreadRow_X2_lowerFrom rfl rfl rfl (by decide +kernel) ⟨Nat.le_of_ble_eq_true rfl, Nat.le_of_ble_eq_true rfl⟩) 11 hq13 rfl rfl rfl (by decide) dX2_spreadRow_51 ⟨Nat.zero_le _, Nat.zero_le _⟩ (fun u15 hp' => ?_)
      obtain ⟨hq17, fr18⟩ := hp'
      have hq19 := (fr18.at 1 (by omega)).trans hq11
      have hq20 := (fr18.at 5 (by omega)).trans hq12
      have hq21 := (fr18.at 11 (by omega)).trans hq13
      refine q_aload_n hc 0 dX2_spreadRow_54 rfl ?_
      refine q_aload_n hc 1 dX2_spreadRow_55 rfl ?_
      refine q_iload_n hc 2 dX2_spreadRow_56 rfl ?_
      refine V.topi (show _ = ((n - 1 - j : Nat) : Int) from by omega) ?_
      refine q_iconstN hc 3 dX2_spreadRow_57 rfl ?_
      refine q_callMv (As := [.ref (ad pa), .int (iZ ((n - 1 - j : Nat) : Int)), .int (iZ ((3 : Nat) : Int))]) (rest := []) hc (c_X2_lowerFrom l D K u15 ad pa (n - 1 - j) 3 w h n (lwF nb (srD nb n (srU nb f n) j) (n - 1 - j) 2) _ _ hq19 hq20 hq21 hq17 hn (by omega) (by omega) (by omega) hNB (lwF_bd (srD_bd (srU_bd hfb n) j))) (cwV 3 hc.1.2.2.2.2 gX2_spreadRow_X2_lowerFrom rfl rfl rfl (by decide +kernel) ⟨Nat.le_of_ble_eq_true rfl, Nat.le_of_ble_eq_true rfl⟩) 11 hq21 rfl rfl rfl (by decide) dX2_spreadRow_58 ⟨Nat.zero_le _, Nat.zero_le _⟩ (fun u22 hp' => ?_)
      obtain ⟨hq24, fr25⟩ := hp'
      have hq26 := (fr25.at 1 (by omega)).trans hq19
      have hq27 := (fr25.at 5 (by omega)).trans hq20
      have hq28 := (fr25.at 11 (by omega)).trans hq21
      refine q_iinc (q := 2) hc [(2, .int (iZ (((n : Nat) : Int) - 1 - ((j : Nat) : Int) + (-1)))), (0, .ref (ad 11)), (1, .ref (ad pa))] dX2_spreadRow_61 rfl (by decide) rfl ?_
      refine q_goto hc 43 dX2_spreadRow_64 (by decide) ?_
      refine V.lve (show ([(2, .int (iZ (((n : Nat) : Int) - 1 - ((j : Nat) : Int) + (-1)))), (0, .ref (ad 11)), (1, .ref (ad pa))] : List (Nat × Value)) = [(2, .int (iZ (((n : Nat) : Int) - 1 - ((j + 1 : Nat) : Int)))), (0, .ref (ad 11)), (1, .ref (ad pa))] from by rw [show (((n : Nat) : Int) - 1 - ((j : Nat) : Int) + (-1) : Int) = ((n : Nat) : Int) - 1 - ((j + 1 : Nat) : Int) from by omega]) ?_
      refine V.sub [1, 2, 0] rfl ?_
      exact ih43 (j + 1) _ (by omega) ⟨(by omega), (hq24), (((fr10.trans fr18 (fun _ _ => by omega)).trans fr25 (fun _ _ => by omega)))⟩
  · refine q_aload_n hc 0 dX2_spreadRow_13 rfl ?_
    refine q_aload_n hc 1 dX2_spreadRow_14 rfl ?_
    refine q_iload_n hc 2 dX2_spreadRow_15 rfl ?_
    refine q_iconstN hc 0 dX2_spreadRow_16 rfl ?_
    refine q_callMv (As := [.ref (ad pa), .int (iZ ((i : Nat) : Int)), .int (iZ ((0 : Nat) : Int))]) (rest := []) hc (c_X2_lowerFrom l D K u1 ad pa i 0 w h n (srU nb f i) _ _ hq4 hq5 hq6 hq2 hn (by omega) (by omega) (by omega) hNB (srU_bd hfb i)) (cwV 3 hc.1.2.2.2.2 gX2_spreadRow_X2_lowerFrom rfl rfl rfl (by decide +kernel) ⟨Nat.le_of_ble_eq_true rfl, Nat.le_of_ble_eq_true rfl⟩) 11 hq6 rfl rfl rfl (by decide) dX2_spreadRow_17 ⟨Nat.zero_le _, Nat.zero_le _⟩ (fun u29 hp' => ?_)
    obtain ⟨hq31, fr32⟩ := hp'
    have hq33 := (fr32.at 1 (by omega)).trans hq4
    have hq34 := (fr32.at 5 (by omega)).trans hq5
    have hq35 := (fr32.at 11 (by omega)).trans hq6
    refine q_aload_n hc 0 dX2_spreadRow_20 rfl ?_
    refine q_aload_n hc 1 dX2_spreadRow_21 rfl ?_
    refine q_iload_n hc 2 dX2_spreadRow_22 rfl ?_
    refine q_iconstN hc 1 dX2_spreadRow_23 rfl ?_
    refine q_callMv (As := [.ref (ad pa), .int (iZ ((i : Nat) : Int)), .int (iZ ((1 : Nat) : Int))]) (rest := []) hc (c_X2_lowerFrom l D K u29 ad pa i 1 w h n (lwF nb (srU nb f i) i 0) _ _ hq33 hq34 hq35 hq31 hn (by omega) (by omega) (by omega) hNB (lwF_bd (srU_bd hfb i))) (cwV 3 hc.1.2.2.2.2 gX2_spreadRow_X2_lowerFrom rfl rfl rfl (by decide +kernel) ⟨Nat.le_of_ble_eq_true rfl, Nat.le_of_ble_eq_true rfl⟩) 11 hq35 rfl rfl rfl (by decide) dX2_spreadRow_24 ⟨Nat.zero_le _, Nat.zero_le _⟩ (fun u36 hp' => ?_)
    obtain ⟨hq38, fr39⟩ := hp'
    have hq40 := (fr39.at 1 (by omega)).trans hq33
    have hq41 := (fr39.at 5 (by omega)).trans hq34
    have hq42 := (fr39.at 11 (by omega)).trans hq35
    refine q_iincN (q := 2) hc 1 [(2, .int (iZ ((i + 1 : Nat) : Int))), (0, .ref (ad 11)), (1, .ref (ad pa))] dX2_spreadRow_27 rfl rfl (by decide) rfl ?_
    refine q_goto hc 2 dX2_spreadRow_30 (by decide) ?_
    refine V.sub [1, 2, 0] rfl ?_
    exact ih2 (i + 1) _ (by omega) ⟨(by omega), (hq38), (((fr3.trans fr32 (fun _ _ => by omega)).trans fr39 (fun _ _ => by omega)))⟩
