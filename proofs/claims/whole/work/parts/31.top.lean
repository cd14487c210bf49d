
set_option maxRecDepth 100000 in
set_option maxHeartbeats 4000000 in
theorem c_X4_dropRoute (l : Launch) (D : va_G) (K : Nat → ClassId) (ws : va_W) (ad : Nat → Nat) (nc rc : Nat) (t : Nat) (pn : Nat) (rl : Int) (w h n : Nat) (us : Nat → Nat) (ro : Nat → Bool) (h0 : ws[0]? = some (ad 0, xO ad nc rc)) (h1 : ws[1]? = some (ad 1, gO ad w h n)) (h3 : ws[3]? = some (ad 3, iN K (2 * n) us)) (hno : ws[30 + 3 * t]? = some (ad (30 + 3 * t), nO ad t pn rl)) (hro : ws[32 + 3 * t]? = some (ad (32 + 3 * t), zA K (2 * n) ro)) (hn : n ≤ 64) (hrl : -1 ≤ rl ∧ rl ≤ 128) (huro : ∀ k, k < 2 * n → ro k = true → 1 ≤ us k) (hro0 : rl = -1 → ∀ k, k < 2 * n → ro k = false) : MMi l yX4_dropRoute wsX4_dropRoute ({ frames := 1, cells := 0, slots := 0, locals := 23 }) D K ws [.ref (ad 0), .ref (ad (30 + 3 * t))] (fun r u => (r = (iZ rl)) ∧ (u[3]? = some (ad 3, iN K (2 * n) (sbU us ro))) ∧ (u[32 + 3 * t]? = some (ad (32 + 3 * t), zA K (2 * n) (fun _ => false))) ∧ (u[30 + 3 * t]? = some (ad (30 + 3 * t), nO ad t pn (-1))) ∧ (Fr (fun j => j = 3 ∨ j = 32 + 3 * t ∨ j = 30 + 3 * t) ws u)) := by
  refine q_entMi RX4 [(0, .ref (ad 0)), (1, .ref (ad (30 + 3 * t)))] (by decide) rfl rfl (Nat.le_of_ble_eq_true rfl) rfl ?_
  intro p e s m args below meth c hc hr hlk
  have i3 : ∀ w ∈ u_ws RX3 TX3 4, w ∈ wsX4_dropRoute := by decide +kernel
  have f130 := hc.1.2.2.2.2 (.fieldLink RX4 130 "GlobalRoutes$Net" "routeLength" "I") (by decide +kernel)
  have i4 : ∀ w ∈ u_ws RX4 TX4 6, w ∈ wsX4_dropRoute := by decide +kernel
  have f18 := hc.1.2.2.2.2 (.fieldLink RX4 18 "GlobalRoutes" "grid" "LGlobalRoutes$Grid;") (by decide +kernel)
  have f136 := hc.1.2.2.2.2 (.fieldLink RX4 136 "GlobalRoutes$Net" "route" "[Z") (by decide +kernel)
  have fr0 : Fr (fun j => j = 3 ∨ j = 32 + 3 * t ∨ j = 30 + 3 * t) ws ws := Fr.rfl
  refine q_aload_n hc 1 dX4_dropRoute_0 rfl ?_
  refine q_get hc (30 + 3 * t) 3 i3 hno rfl (by decide) f130 rfl rfl dX4_dropRoute_1 ?_
  refine q_istore_n hc [(2, .int (iZ rl)), (0, .ref (ad 0)), (1, .ref (ad (30 + 3 * t)))] dX4_dropRoute_4 rfl (by decide) rfl ?_
  refine q_iload_n hc 0 dX4_dropRoute_5 rfl ?_
  refine q_iconst hc dX4_dropRoute_6 ?_
  refine q_icmp_eq hc 26 dX4_dropRoute_7 (by decide) (by omega) (by omega) (fun c1 => ?_) (fun c1 => ?_)
  · have hro9 := hro0 c1; subst c1
    refine q_norm_iN (g := sbU us ro) hc 3 h3 (fun k hk => by unfold sbU; rw [hro9 k hk]; simp) (fun u2 hn' hf' => ?_)
    have hq3 : u2[3]? = some (ad 3, iN K (2 * n) (sbU us ro)) := hn'
    have hq4 := (hf' 0 (by omega)).trans h0
    have hq5 := (hf' 1 (by omega)).trans h1
    have hq6 := (hf' (30 + 3 * t) (by omega)).trans hno
    have hq7 := (hf' (32 + 3 * t) (by omega)).trans hro
    have fr8 := Fr.one hf'
    refine q_norm_zA (g := fun _ => false) hc (32 + 3 * t) hq7 (fun k hk => hro9 k hk) (fun u9 hn' hf' => ?_)
    have hq10 : u9[32 + 3 * t]? = some (ad (32 + 3 * t), zA K (2 * n) (fun _ => false)) := hn'
    have hq11 := (hf' 0 (by omega)).trans hq4
    have hq12 := (hf' 1 (by omega)).trans hq5
    have hq13 := (hf' 3 (by omega)).trans hq3
    have hq14 := (hf' (30 + 3 * t) (by omega)).trans hq6
    have fr15 := Fr.one hf'
    refine q_iload_n hc 0 dX4_dropRoute_26 rfl ?_
    exact q_iretM (z := (-1)) hc (⟨rfl, hq13, hq10, hq14, ((fr0.trans fr8 (fun _ _ => by omega)).trans fr15 (fun _ _ => by omega))⟩) hr hlk dX4_dropRoute_27
  · refine q_aload_n hc 1 dX4_dropRoute_10 rfl ?_
    refine q_get hc 0 0 i4 h0 rfl (by decide) f18 rfl rfl dX4_dropRoute_11 ?_
    refine q_aload_n hc 2 dX4_dropRoute_14 rfl ?_
    refine q_get hc (30 + 3 * t) 1 i3 hno rfl (by decide) f136 rfl rfl dX4_dropRoute_15 ?_
    refine q_iconst hc dX4_dropRoute_18 ?_
    refine q_callMv (As := [.ref (ad (32 + 3 * t)), .int (iZ (-1))]) (rest := []) hc (c_X0_addUses l D K ws ad t w h n us (sbU us ro) ro (-1) h1 h3 hro hn (by omega) (fun k hk => sbU_int (huro k hk))) (cwV 2 hc.1.2.2.2.2 gX4_dropRoute_X0_addUses rfl rfl rfl (by decide +kernel) ⟨Nat.le_of_ble_eq_true rfl, Nat.le_of_ble_eq_true rfl⟩) 1 h1 rfl rfl rfl (by decide) dX4_dropRoute_19 ⟨Nat.zero_le _, Nat.zero_le _⟩ (fun u16 hp' => ?_)
    obtain ⟨hq18, fr19⟩ := hp'
    have hq20 := (fr19.at 0 (by omega)).trans h0
    have hq21 := (fr19.at 1 (by omega)).trans h1
    have hq22 := (fr19.at (30 + 3 * t) (by omega)).trans hno
    have hq23 := (fr19.at (32 + 3 * t) (by omega)).trans hro
    refine q_aload_n hc 2 dX4_dropRoute_22 rfl ?_
    refine q_callMv (As := []) (rest := []) hc (c_X3_clearRoute l D K u16 ad t pn rl _ ro hq22 hq23 hn) (cwV 0 hc.1.2.2.2.2 gX4_dropRoute_X3_clearRoute rfl rfl rfl (by decide +kernel) ⟨Nat.le_of_ble_eq_true rfl, Nat.le_of_ble_eq_true rfl⟩) (30 + 3 * t) hq22 rfl rfl rfl (by decide) dX4_dropRoute_23 ⟨Nat.zero_le _, Nat.zero_le _⟩ (fun u24 hp' => ?_)
    obtain ⟨hq26, hq27, fr28⟩ := hp'
    have hq29 := (fr28.at 0 (by omega)).trans hq20
    have hq30 := (fr28.at 1 (by omega)).trans hq21
    have hq31 := (fr28.at 3 (by omega)).trans hq18
    refine q_iload_n hc 0 dX4_dropRoute_26 rfl ?_
    exact q_iretM (z := rl) hc (⟨rfl, hq31, hq26, hq27, ((fr0.trans fr19 (fun _ _ => by omega)).trans fr28 (fun _ _ => by omega))⟩) hr hlk dX4_dropRoute_27

set_option maxRecDepth 100000 in
set_option maxHeartbeats 4000000 in
theorem c_X4_leadAnew (l : Launch) (D : va_G) (K : Nat → ClassId) (ws : va_W) (ad : Nat → Nat) (nc rc : Nat) (t : Nat) (pn : Nat) (rl : Int) (w h n : Nat) (cap us hi co di pi : Nat → Nat) (tr ro : Nat → Bool) (nb bt : Nat → Option Nat) (h0 : ws[0]? = some (ad 0, xO ad nc rc)) (h1 : ws[1]? = some (ad 1, gO ad w h n)) (h2 : ws[2]? = some (ad 2, iN K (2 * n) cap)) (h3 : ws[3]? = some (ad 3, iN K (2 * n) us)) (h4 : ws[4]? = some (ad 4, iN K (2 * n) hi)) (h5 : ws[5]? = some (ad 5, iA K (4 * n) (fun k => oZ (nb k)))) (h6 : ws[6]? = some (ad 6, iA K (4 * n) (fun k => oZ (bt k)))) (h7 : ws[7]? = some (ad 7, lO ad)) (h8 : ws[8]? = some (ad 8, iN K (2 * n) co)) (h9 : ws[9]? = some (ad 9, iN K n di)) (h10 : ws[10]? = some (ad 10, zA K n tr)) (hno : ws[30 + 3 * t]? = some (ad (30 + 3 * t), nO ad t pn rl)) (hpi : ws[31 + 3 * t]? = some (ad (31 + 3 * t), iN K 5 pi)) (hro : ws[32 + 3 * t]? = some (ad (32 + 3 * t), zA K (2 * n) ro)) (hn : n ≤ 64) (hNB : NB n nb bt) (hcap : ∀ k, k < 2 * n → cap k ≤ 20) (hus : ∀ k, k < 2 * n → us k ≤ 12) (hhi : ∀ k, k < 2 * n → hi k ≤ 5120) (hpn : pn ≤ 5) (hp2 : 2 ≤ pn) (hpin : ∀ k, k < pn → pi k < n) (hrl : -1 ≤ rl ∧ rl ≤ 128) (huro : ∀ k, k < 2 * n → ro k = true → 1 ≤ us k) (hro0 : rl = -1 → ∀ k, k < 2 * n → ro k = false) : MMl l yX4_leadAnew wsX4_leadAnew ({ frames := 4, cells := 0, slots := 0, locals := 92 }) D K ws [.ref (ad 0), .ref (ad (30 + 3 * t))] (fun r u => (r = (jZ ((sm (fun k => if (jn nb bt (coF cap (sbU us ro) hi) pi n pn (pn - 1) (diS (pi 0)) (trS (pi 0)) (fun _ => false)).2.2 k = true then coF cap (sbU us ro) hi k else 0) (2 * n) : Nat) : Int))) ∧ (u[3]? = some (ad 3, iN K (2 * n) (adU (sbU us ro) (jn nb bt (coF cap (sbU us ro) hi) pi n pn (pn - 1) (diS (pi 0)) (trS (pi 0)) (fun _ => false)).2.2))) ∧ (u[8]? = some (ad 8, iN K (2 * n) (coF cap (sbU us ro) hi))) ∧ (u[9]? = some (ad 9, iN K n ((jn nb bt (coF cap (sbU us ro) hi) pi n pn (pn - 1) (diS (pi 0)) (trS (pi 0)) (fun _ => false)).1))) ∧ (u[10]? = some (ad 10, zA K n ((jn nb bt (coF cap (sbU us ro) hi) pi n pn (pn - 1) (diS (pi 0)) (trS (pi 0)) (fun _ => false)).2.1))) ∧ (u[32 + 3 * t]? = some (ad (32 + 3 * t), zA K (2 * n) ((jn nb bt (coF cap (sbU us ro) hi) pi n pn (pn - 1) (diS (pi 0)) (trS (pi 0)) (fun _ => false)).2.2))) ∧ (u[30 + 3 * t]? = some (ad (30 + 3 * t), nO ad t pn ((cnt (jn nb bt (coF cap (sbU us ro) hi) pi n pn (pn - 1) (diS (pi 0)) (trS (pi 0)) (fun _ => false)).2.2 (2 * n) : Nat) : Int))) ∧ (Fr (fun j => j = 3 ∨ j = 8 ∨ j = 9 ∨ j = 10 ∨ j = 32 + 3 * t ∨ j = 30 + 3 * t) ws u)) := by
  refine q_entMl RX4 [(0, .ref (ad 0)), (1, .ref (ad (30 + 3 * t)))] (by decide) rfl rfl (Nat.le_of_ble_eq_true rfl) rfl ?_
  intro p e s m args below meth c hc hr hlk
  have i4 : ∀ w ∈ u_ws RX4 TX4 6, w ∈ wsX4_leadAnew := by decide +kernel
  have f27 := hc.1.2.2.2.2 (.fieldLink RX4 27 "GlobalRoutes" "leader" "LGlobalRoutes$Leader;") (by decide +kernel)
  have f18 := hc.1.2.2.2.2 (.fieldLink RX4 18 "GlobalRoutes" "grid" "LGlobalRoutes$Grid;") (by decide +kernel)
  have i3 : ∀ w ∈ u_ws RX3 TX3 4, w ∈ wsX4_leadAnew := by decide +kernel
  have f136 := hc.1.2.2.2.2 (.fieldLink RX4 136 "GlobalRoutes$Net" "route" "[Z") (by decide +kernel)
  have fr0 : Fr (fun j => j = 3 ∨ j = 8 ∨ j = 9 ∨ j = 10 ∨ j = 32 + 3 * t ∨ j = 30 + 3 * t) ws ws := Fr.rfl
  refine q_aload_n hc 0 dX4_leadAnew_0 rfl ?_
  refine q_aload_n hc 1 dX4_leadAnew_1 rfl ?_
  refine q_callMi (As := [.ref (ad (30 + 3 * t))]) (rest := []) hc (c_X4_dropRoute l D K ws ad nc rc t pn rl w h n us ro h0 h1 h3 hno hro hn hrl huro hro0) (cwV 1 hc.1.2.2.2.2 gX4_leadAnew_X4_dropRoute rfl rfl rfl (by decide +kernel) ⟨Nat.le_of_ble_eq_true rfl, Nat.le_of_ble_eq_true rfl⟩) 0 h0 rfl rfl rfl (by decide) dX4_leadAnew_2 ⟨Nat.zero_le _, Nat.zero_le _⟩ (fun r2 u1 hp' => ?_)
  obtain ⟨hr7, hq3, hq4, hq5, fr6⟩ := hp'
  have hq8 := (fr6.at 0 (by omega)).trans h0
  have hq9 := (fr6.at 1 (by omega)).trans h1
  have hq10 := (fr6.at 2 (by omega)).trans h2
  have hq11 := (fr6.at 4 (by omega)).trans h4
  have hq12 := (fr6.at 5 (by omega)).trans h5
  have hq13 := (fr6.at 6 (by omega)).trans h6
  have hq14 := (fr6.at 7 (by omega)).trans h7
  have hq15 := (fr6.at 8 (by omega)).trans h8
  have hq16 := (fr6.at 9 (by omega)).trans h9
  have hq17 := (fr6.at 10 (by omega)).trans h10
  have hq18 := (fr6.at (31 + 3 * t) (by omega)).trans hpi
  subst hr7
  refine q_pop hc dX4_leadAnew_5 rfl ?_
  have hus1 : ∀ k, k < 2 * n → sbU us ro k ≤ 12 := fun k hk => Nat.le_trans (Nat.sub_le _ _) (hus k hk)
  refine q_aload_n hc 0 dX4_leadAnew_6 rfl ?_
  refine q_get hc 0 1 i4 hq8 rfl (by decide) f27 rfl rfl dX4_leadAnew_7 ?_
  refine q_aload_n hc 1 dX4_leadAnew_10 rfl ?_
  refine q_callMl (As := [.ref (ad (30 + 3 * t))]) (rest := []) hc (c_X1_findRoute l D K u1 ad t pn (-1) w h n cap (sbU us ro) hi co di pi tr (fun _ => false) _ _ hq9 hq10 hq3 hq11 hq12 hq13 hq14 hq15 hq16 hq17 hq5 hq18 hq4 hn hNB hcap hus1 hhi hpn hp2 hpin) (cwV 1 hc.1.2.2.2.2 gX4_leadAnew_X1_findRoute rfl rfl rfl (by decide +kernel) ⟨Nat.le_of_ble_eq_true rfl, Nat.le_of_ble_eq_true rfl⟩) 7 hq14 rfl rfl rfl (by decide) dX4_leadAnew_11 ⟨Nat.zero_le _, Nat.zero_le _⟩ (fun r20 u19 hp' => ?_)
  obtain ⟨hr27, hq21, hq22, hq23, hq24, hq25, fr26⟩ := hp'
  have hq28 := (fr26.at 0 (by omega)).trans hq8
  have hq29 := (fr26.at 1 (by omega)).trans hq9
  have hq30 := (fr26.at 2 (by omega)).trans hq10
  have hq31 := (fr26.at 3 (by omega)).trans hq3
  have hq32 := (fr26.at 4 (by omega)).trans hq11
  have hq33 := (fr26.at 5 (by omega)).trans hq12
  have hq34 := (fr26.at 6 (by omega)).trans hq13
  have hq35 := (fr26.at 7 (by omega)).trans hq14
  have hq36 := (fr26.at (31 + 3 * t) (by omega)).trans hq18
  subst hr27
  refine q_lstore_n hc [(2, .long (jZ ((sm (fun k => if (jn nb bt (coF cap (sbU us ro) hi) pi n pn (pn - 1) (diS (pi 0)) (trS (pi 0)) (fun _ => false)).2.2 k = true then coF cap (sbU us ro) hi k else 0) (2 * n) : Nat) : Int))), (0, .ref (ad 0)), (1, .ref (ad (30 + 3 * t)))] dX4_leadAnew_14 rfl (by decide) rfl ?_
  refine q_aload_n hc 1 dX4_leadAnew_15 rfl ?_
  refine q_get hc 0 0 i4 hq28 rfl (by decide) f18 rfl rfl dX4_leadAnew_16 ?_
  refine q_aload_n hc 2 dX4_leadAnew_19 rfl ?_
  refine q_get hc (30 + 3 * t) 1 i3 hq25 rfl (by decide) f136 rfl rfl dX4_leadAnew_20 ?_
  refine q_iconstN hc 1 dX4_leadAnew_23 rfl ?_
  refine q_callMv (As := [.ref (ad (32 + 3 * t)), .int (iZ ((1 : Nat) : Int))]) (rest := []) hc (c_X0_addUses l D K u19 ad t w h n (sbU us ro) (adU (sbU us ro) (jn nb bt (coF cap (sbU us ro) hi) pi n pn (pn - 1) (diS (pi 0)) (trS (pi 0)) (fun _ => false)).2.2) ((jn nb bt (coF cap (sbU us ro) hi) pi n pn (pn - 1) (diS (pi 0)) (trS (pi 0)) (fun _ => false)).2.2) ((1 : Nat) : Int) hq29 hq31 hq24 hn (by omega) (fun k hk => by unfold adU; by_cases e : (jn nb bt (coF cap (sbU us ro) hi) pi n pn (pn - 1) (diS (pi 0)) (trS (pi 0)) (fun _ => false)).2.2 k = true <;> simp [e])) (cwV 2 hc.1.2.2.2.2 gX4_leadAnew_X0_addUses rfl rfl rfl (by decide +kernel) ⟨Nat.le_of_ble_eq_true rfl, Nat.le_of_ble_eq_true rfl⟩) 1 hq29 rfl rfl rfl (by decide) dX4_leadAnew_24 ⟨Nat.zero_le _, Nat.zero_le _⟩ (fun u37 hp' => ?_)
  obtain ⟨hq39, fr40⟩ := hp'
  have hq41 := (fr40.at 0 (by omega)).trans hq28
  have hq42 := (fr40.at 1 (by omega)).trans hq29
  have hq43 := (fr40.at 2 (by omega)).trans hq30
  have hq44 := (fr40.at 4 (by omega)).trans hq32
  have hq45 := (fr40.at 5 (by omega)).trans hq33
  have hq46 := (fr40.at 6 (by omega)).trans hq34
  have hq47 := (fr40.at 7 (by omega)).trans hq35
  have hq48 := (fr40.at 8 (by omega)).trans hq21
  have hq49 := (fr40.at 9 (by omega)).trans hq22
  have hq50 := (fr40.at 10 (by omega)).trans hq23
  have hq51 := (fr40.at (30 + 3 * t) (by omega)).trans hq25
  have hq52 := (fr40.at (31 + 3 * t) (by omega)).trans hq36
  have hq53 := (fr40.at (32 + 3 * t) (by omega)).trans hq24
  refine q_lload_n hc 0 dX4_leadAnew_27 rfl ?_
  exact q_lretM (z := ((sm (fun k => if (jn nb bt (coF cap (sbU us ro) hi) pi n pn (pn - 1) (diS (pi 0)) (trS (pi 0)) (fun _ => false)).2.2 k = true then coF cap (sbU us ro) hi k else 0) (2 * n) : Nat) : Int)) hc (⟨rfl, hq39, hq48, hq49, hq50, hq53, hq51, (((fr0.trans fr6 (fun _ _ => by omega)).trans fr26 (fun _ _ => by omega)).trans fr40 (fun _ _ => by omega))⟩) hr hlk dX4_leadAnew_28

set_option maxRecDepth 100000 in
set_option maxHeartbeats 4000000 in
theorem c_X4_isDone (l : Launch) (D : va_G) (K : Nat → ClassId) (ws : va_W) (ad : Nat → Nat) (nc rc : Nat) (w h n : Nat) (cap us : Nat → Nat) (pn : Nat → Nat) (rl : Nat → Int) (h0 : ws[0]? = some (ad 0, xO ad nc rc)) (h1 : ws[1]? = some (ad 1, gO ad w h n)) (h2 : ws[2]? = some (ad 2, iN K (2 * n) cap)) (h3 : ws[3]? = some (ad 3, iN K (2 * n) us)) (h29 : ws[29]? = some (ad 29, nA K 12 (nF ad))) (hN : ∀ s, s < 12 → ws[30 + 3 * s]? = some (ad (30 + 3 * s), nO ad s (pn s) (rl s))) (hn : n ≤ 64) (hnc : nc ≤ 12) (hcap : ∀ k, k < 2 * n → cap k ≤ 20) (hus : ∀ k, k < 2 * n → us k ≤ 12) (hpn : ∀ j, j < nc → pn j ≤ 5) (hrl : ∀ j, j < nc → -1 ≤ rl j ∧ rl j ≤ 128) : MPi l yX4_isDone wsX4_isDone ({ frames := 3, cells := 0, slots := 0, locals := 64 }) D K ws [.ref (ad 0)] (fun r => r = (iZ (bZ (!(anyB (fun j => decide (2 ≤ pn j) && decide (rl j = -1)) nc) && decide (cnt (fun k => decide (0 < us k - cap k)) (2 * n) = 0))))) := by
  refine q_entPi RX4 [(0, .ref (ad 0))] (by decide) rfl rfl (Nat.le_of_ble_eq_true rfl) rfl ?_
  intro p e s m args below meth c hc hr hlk
  have i4 : ∀ w ∈ u_ws RX4 TX4 6, w ∈ wsX4_isDone := by decide +kernel
  have f51 := hc.1.2.2.2.2 (.fieldLink RX4 51 "GlobalRoutes" "netCount" "I") (by decide +kernel)
  have f18 := hc.1.2.2.2.2 (.fieldLink RX4 18 "GlobalRoutes" "grid" "LGlobalRoutes$Grid;") (by decide +kernel)
  have f40 := hc.1.2.2.2.2 (.fieldLink RX4 40 "GlobalRoutes" "nets" "[LGlobalRoutes$Net;") (by decide +kernel)
  refine q_iconstN hc 0 dX4_isDone_0 rfl ?_
  refine q_istore_n hc [(1, .int (iZ ((0 : Nat) : Int))), (0, .ref (ad 0))] dX4_isDone_1 rfl (by decide) rfl ?_
  refine V.sub [1, 0] rfl ?_
  refine V.loopP (α := Nat) (fun x => nc - x) (fun x => (x ≤ nc) ∧ (anyB (fun j => decide (2 ≤ pn j) && decide (rl j = -1)) x = false)) (fun x => [(0, .ref (ad 0)), (1, .int (iZ ((x : Nat) : Int)))]) 0 ⟨(Nat.zero_le _), (rfl)⟩ rfl ?_
  intro i ih2 hI
  try dsimp only at ih2 hI ⊢
  obtain ⟨hi0, ha⟩ := hI
  refine q_iload_n hc 1 dX4_isDone_2 rfl ?_
  refine q_aload_n hc 0 dX4_isDone_3 rfl ?_
  refine q_get hc 0 4 i4 h0 rfl (by decide) f51 rfl rfl dX4_isDone_4 ?_
  refine q_icmpN_ge hc 42 dX4_isDone_7 (by decide) (by omega) (by omega) (fun c2 => ?_) (fun c2 => ?_)
  · obtain rfl : nc = i := by omega
    refine q_aload_n hc 0 dX4_isDone_42 rfl ?_
    refine q_get hc 0 0 i4 h0 rfl (by decide) f18 rfl rfl dX4_isDone_43 ?_
    refine q_callPn (As := []) (rest := []) hc (c_X0_bordersOver l D K ws ad w h n cap us h1 h2 h3 hn hcap hus) (cwV 0 hc.1.2.2.2.2 gX4_isDone_X0_bordersOver rfl rfl rfl (by decide +kernel) ⟨Nat.le_of_ble_eq_true rfl, Nat.le_of_ble_eq_true rfl⟩) 1 h1 rfl rfl rfl (by decide) dX4_isDone_46 ⟨Nat.zero_le _, Nat.zero_le _⟩ ?_
    have hb9 := cnt_le (fun k => decide (0 < us k - cap k)) (2 * n)
    refine q_if_ne hc 56 dX4_isDone_49 (by decide) (by omega) (fun c5 => ?_) (fun c5 => ?_)
    · refine q_iconstN hc 0 dX4_isDone_56 rfl ?_
      exact q_zretP (b := false) hc (congrArg (fun b => iZ (bZ b)) (show false = (!(anyB (fun j => decide (2 ≤ pn j) && decide (rl j = -1)) nc) && decide (cnt (fun k => decide (0 < us k - cap k)) (2 * n) = 0)) from by rw [ha, decide_eq_false (show ¬ (cnt (fun k => decide (0 < us k - cap k)) (2 * n) = 0) by omega)]; rfl)) hr hlk dX4_isDone_57
    · refine q_iconstN hc 1 dX4_isDone_52 rfl ?_
      refine q_goto hc 57 dX4_isDone_53 (by decide) ?_
      exact q_zretP (b := true) hc (congrArg (fun b => iZ (bZ b)) (show true = (!(anyB (fun j => decide (2 ≤ pn j) && decide (rl j = -1)) nc) && decide (cnt (fun k => decide (0 < us k - cap k)) (2 * n) = 0)) from by rw [ha, decide_eq_true (show (cnt (fun k => decide (0 < us k - cap k)) (2 * n) = 0) by omega)]; rfl)) hr hlk dX4_isDone_57
  · refine q_aload_n hc 0 dX4_isDone_10 rfl ?_
    refine q_get hc 0 3 i4 h0 rfl (by decide) f40 rfl rfl dX4_isDone_11 ?_
    refine q_iload_n hc 1 dX4_isDone_14 rfl ?_
    refine q_nald (j := i) hc 29 h29 rfl (by omega) (by omega) dX4_isDone_15 ?_
    refine V.topv (show _ = Value.ref (ad (30 + 3 * i)) from rfl) ?_
    have hq6 : ws[30 + 3 * i]? = some (ad (30 + 3 * i), nO ad i (pn i) (rl i)) := hN i (by omega)
    refine q_callPz (As := []) (rest := []) hc (c_X3_isRoutable l D K ws ad i (pn i) (rl i) hq6 (hpn i (by omega))) (cwV 0 hc.1.2.2.2.2 gX4_isDone_X3_isRoutable rfl rfl rfl (by decide +kernel) ⟨Nat.le_of_ble_eq_true rfl, Nat.le_of_ble_eq_true rfl⟩) (30 + 3 * i) hq6 rfl rfl rfl (by decide) dX4_isDone_16 ⟨Nat.zero_le _, Nat.zero_le _⟩ ?_
    refine q_ifz_eq hc 36 dX4_isDone_19 (by decide) (fun c9 => ?_) (fun c9 => ?_)
    · refine q_iincN (q := 1) hc 1 [(1, .int (iZ ((i + 1 : Nat) : Int))), (0, .ref (ad 0))] dX4_isDone_36 rfl rfl (by decide) rfl ?_
      refine q_goto hc 2 dX4_isDone_39 (by decide) ?_
      refine V.sub [1, 0] rfl ?_
      exact ih2 (i + 1) (by omega) ⟨(by omega), (by show (anyB _ i || (decide (2 ≤ pn i) && decide (rl i = -1))) = false; rw [ha, c9]; rfl)⟩
    · refine q_aload_n hc 0 dX4_isDone_22 rfl ?_
      refine q_get hc 0 3 i4 h0 rfl (by decide) f40 rfl rfl dX4_isDone_23 ?_
      refine q_iload_n hc 1 dX4_isDone_26 rfl ?_
      refine q_nald (j := i) hc 29 h29 rfl (by omega) (by omega) dX4_isDone_27 ?_
      refine V.topv (show _ = Value.ref (ad (30 + 3 * i)) from rfl) ?_
      refine q_callPz (As := []) (rest := []) hc (c_X3_isRouted l D K ws ad i (pn i) (rl i) hq6 (hrl i (by omega))) (cwV 0 hc.1.2.2.2.2 gX4_isDone_X3_isRouted rfl rfl rfl (by decide +kernel) ⟨Nat.le_of_ble_eq_true rfl, Nat.le_of_ble_eq_true rfl⟩) (30 + 3 * i) hq6 rfl rfl rfl (by decide) dX4_isDone_28 ⟨Nat.zero_le _, Nat.zero_le _⟩ ?_
      refine q_ifz_ne hc 36 dX4_isDone_31 (by decide) (fun c12 => ?_) (fun c12 => ?_)
      · refine q_iincN (q := 1) hc 1 [(1, .int (iZ ((i + 1 : Nat) : Int))), (0, .ref (ad 0))] dX4_isDone_36 rfl rfl (by decide) rfl ?_
        refine q_goto hc 2 dX4_isDone_39 (by decide) ?_
        refine V.sub [1, 0] rfl ?_
        exact ih2 (i + 1) (by omega) ⟨(by omega), (by show (anyB _ i || (decide (2 ≤ pn i) && decide (rl i = -1))) = false; rw [ha, decide_eq_false (of_decide_eq_true c12), Bool.and_false]; rfl)⟩
      · refine q_iconstN hc 0 dX4_isDone_34 rfl ?_
        exact q_zretP (b := false) hc (congrArg (fun b => iZ (bZ b)) (show false = (!(anyB (fun j => decide (2 ≤ pn j) && decide (rl j = -1)) nc) && decide (cnt (fun k => decide (0 < us k - cap k)) (2 * n) = 0)) from by rw [anyB_of (i := i) (by omega) (by have a1 := of_decide_eq_true c9; have a2 := of_decide_eq_false c12; simp only [Bool.and_eq_true, decide_eq_true_eq]; exact ⟨a1, by omega⟩)]; rfl)) hr hlk dX4_isDone_35

set_option maxRecDepth 100000 in
set_option maxHeartbeats 4000000 in
theorem c_X4_routedNets (l : Launch) (D : va_G) (K : Nat → ClassId) (ws : va_W) (ad : Nat → Nat) (nc rc : Nat) (pn : Nat → Nat) (rl : Nat → Int) (h0 : ws[0]? = some (ad 0, xO ad nc rc)) (h29 : ws[29]? = some (ad 29, nA K 12 (nF ad))) (hN : ∀ s, s < 12 → ws[30 + 3 * s]? = some (ad (30 + 3 * s), nO ad s (pn s) (rl s))) (hnc : nc ≤ 12) (hrl : ∀ j, j < nc → -1 ≤ rl j ∧ rl j ≤ 128) : MPi l yX4_routedNets wsX4_routedNets ({ frames := 1, cells := 0, slots := 0, locals := 20 }) D K ws [.ref (ad 0)] (fun r => r = (iZ ((cnt (fun j => decide (¬ rl j = -1)) nc : Nat) : Int))) := by
  refine q_entPi RX4 [(0, .ref (ad 0))] (by decide) rfl rfl (Nat.le_of_ble_eq_true rfl) rfl ?_
  intro p e s m args below meth c hc hr hlk
  have i4 : ∀ w ∈ u_ws RX4 TX4 6, w ∈ wsX4_routedNets := by decide +kernel
  have f51 := hc.1.2.2.2.2 (.fieldLink RX4 51 "GlobalRoutes" "netCount" "I") (by decide +kernel)
  have f40 := hc.1.2.2.2.2 (.fieldLink RX4 40 "GlobalRoutes" "nets" "[LGlobalRoutes$Net;") (by decide +kernel)
  refine q_iconstN hc 0 dX4_routedNets_0 rfl ?_
  refine q_istore_n hc [(1, .int (iZ ((0 : Nat) : Int))), (0, .ref (ad 0))] dX4_routedNets_1 rfl (by decide) rfl ?_
  refine q_iconstN hc 0 dX4_routedNets_2 rfl ?_
  refine q_istore_n hc [(2, .int (iZ ((0 : Nat) : Int))), (1, .int (iZ ((0 : Nat) : Int))), (0, .ref (ad 0))] dX4_routedNets_3 rfl (by decide) rfl ?_
  refine V.sub [2, 1, 0] rfl ?_
  refine V.loopP (α := Nat × Nat) (fun x => nc - x.1) (fun x => (x.1 ≤ nc) ∧ (x.2 = cnt (fun j => decide (¬ rl j = -1)) x.1)) (fun x => [(0, .ref (ad 0)), (1, .int (iZ ((x.2 : Nat) : Int))), (2, .int (iZ ((x.1 : Nat) : Int)))]) (0, 0) ⟨(Nat.zero_le _), (rfl)⟩ rfl ?_
  intro x ih4 hI
  obtain ⟨i, a⟩ := x
  try dsimp only at ih4 hI ⊢
  obtain ⟨hi0, ha⟩ := hI
  refine q_iload_n hc 2 dX4_routedNets_4 rfl ?_
  refine q_aload_n hc 0 dX4_routedNets_5 rfl ?_
  refine q_get hc 0 4 i4 h0 rfl (by decide) f51 rfl rfl dX4_routedNets_6 ?_
  refine q_icmpN_ge hc 33 dX4_routedNets_9 (by decide) (by omega) (by omega) (fun c2 => ?_) (fun c2 => ?_)
  · refine q_iload_n hc 1 dX4_routedNets_33 rfl ?_
    exact q_iretP (z := ((a : Nat) : Int)) hc (by rw [ha, show i = nc by omega]) hr hlk dX4_routedNets_34
  · refine q_aload_n hc 0 dX4_routedNets_12 rfl ?_
    refine q_get hc 0 3 i4 h0 rfl (by decide) f40 rfl rfl dX4_routedNets_13 ?_
    refine q_iload_n hc 2 dX4_routedNets_16 rfl ?_
    refine q_nald (j := i) hc 29 h29 rfl (by omega) (by omega) dX4_routedNets_17 ?_
    refine V.topv (show _ = Value.ref (ad (30 + 3 * i)) from rfl) ?_
    have hq3 : ws[30 + 3 * i]? = some (ad (30 + 3 * i), nO ad i (pn i) (rl i)) := hN i (by omega)
    refine q_callPz (As := []) (rest := []) hc (c_X3_isRouted l D K ws ad i (pn i) (rl i) hq3 (hrl i (by omega))) (cwV 0 hc.1.2.2.2.2 gX4_routedNets_X3_isRouted rfl rfl rfl (by decide +kernel) ⟨Nat.le_of_ble_eq_true rfl, Nat.le_of_ble_eq_true rfl⟩) (30 + 3 * i) hq3 rfl rfl rfl (by decide) dX4_routedNets_18 ⟨Nat.zero_le _, Nat.zero_le _⟩ ?_
    refine q_ifz_eq hc 27 dX4_routedNets_21 (by decide) (fun c6 => ?_) (fun c6 => ?_)
    · refine q_iincN (q := 2) hc 1 [(2, .int (iZ ((i + 1 : Nat) : Int))), (0, .ref (ad 0)), (1, .int (iZ ((a : Nat) : Int)))] dX4_routedNets_27 rfl rfl (by decide) rfl ?_
      refine q_goto hc 4 dX4_routedNets_30 (by decide) ?_
      refine V.sub [1, 2, 0] rfl ?_
      exact ih4 (i + 1, a) (by omega) ⟨(by omega), (by rw [cnt_s, if_neg (by rw [c6]; decide)]; exact ha)⟩
    · refine q_iincN (q := 1) hc 1 [(1, .int (iZ ((a + 1 : Nat) : Int))), (0, .ref (ad 0)), (2, .int (iZ ((i : Nat) : Int)))] dX4_routedNets_24 rfl rfl (by decide) rfl ?_
      refine q_iincN (q := 2) hc 1 [(2, .int (iZ ((i + 1 : Nat) : Int))), (1, .int (iZ ((a + 1 : Nat) : Int))), (0, .ref (ad 0))] dX4_routedNets_27 rfl rfl (by decide) rfl ?_
      refine q_goto hc 4 dX4_routedNets_30 (by decide) ?_
      refine V.sub [2, 1, 0] rfl ?_
      exact ih4 (i + 1, a + 1) (by omega) ⟨(by omega), (by rw [cnt_s, ha, if_pos c6])⟩

set_option maxRecDepth 100000 in
set_option maxHeartbeats 4000000 in
theorem c_X4_bordersOfRoutes (l : Launch) (D : va_G) (K : Nat → ClassId) (ws : va_W) (ad : Nat → Nat) (nc rc : Nat) (pn : Nat → Nat) (rl : Nat → Int) (h0 : ws[0]? = some (ad 0, xO ad nc rc)) (h29 : ws[29]? = some (ad 29, nA K 12 (nF ad))) (hN : ∀ s, s < 12 → ws[30 + 3 * s]? = some (ad (30 + 3 * s), nO ad s (pn s) (rl s))) (hnc : nc ≤ 12) (hrl : ∀ j, j < nc → -1 ≤ rl j ∧ rl j ≤ 128) : MPi l yX4_bordersOfRoutes wsX4_bordersOfRoutes ({ frames := 1, cells := 0, slots := 0, locals := 20 }) D K ws [.ref (ad 0)] (fun r => r = (iZ ((sm (fun j => (rl j).toNat) nc : Nat) : Int))) := by
  refine q_entPi RX4 [(0, .ref (ad 0))] (by decide) rfl rfl (Nat.le_of_ble_eq_true rfl) rfl ?_
  intro p e s m args below meth c hc hr hlk
  have i4 : ∀ w ∈ u_ws RX4 TX4 6, w ∈ wsX4_bordersOfRoutes := by decide +kernel
  have f51 := hc.1.2.2.2.2 (.fieldLink RX4 51 "GlobalRoutes" "netCount" "I") (by decide +kernel)
  have f40 := hc.1.2.2.2.2 (.fieldLink RX4 40 "GlobalRoutes" "nets" "[LGlobalRoutes$Net;") (by decide +kernel)
  have i3 : ∀ w ∈ u_ws RX3 TX3 4, w ∈ wsX4_bordersOfRoutes := by decide +kernel
  have f130 := hc.1.2.2.2.2 (.fieldLink RX4 130 "GlobalRoutes$Net" "routeLength" "I") (by decide +kernel)
  refine q_iconstN hc 0 dX4_bordersOfRoutes_0 rfl ?_
  refine q_istore_n hc [(1, .int (iZ ((0 : Nat) : Int))), (0, .ref (ad 0))] dX4_bordersOfRoutes_1 rfl (by decide) rfl ?_
  refine q_iconstN hc 0 dX4_bordersOfRoutes_2 rfl ?_
  refine q_istore_n hc [(2, .int (iZ ((0 : Nat) : Int))), (1, .int (iZ ((0 : Nat) : Int))), (0, .ref (ad 0))] dX4_bordersOfRoutes_3 rfl (by decide) rfl ?_
  refine V.sub [2, 1, 0] rfl ?_
  refine V.loopP (α := Nat × Nat) (fun x => nc - x.1) (fun x => (x.1 ≤ nc) ∧ (x.2 = sm (fun j => (rl j).toNat) x.1)) (fun x => [(0, .ref (ad 0)), (1, .int (iZ ((x.2 : Nat) : Int))), (2, .int (iZ ((x.1 : Nat) : Int)))]) (0, 0) ⟨(Nat.zero_le _), (rfl)⟩ rfl ?_
  intro x ih4 hI
  obtain ⟨i, a⟩ := x
  try dsimp only at ih4 hI ⊢
  obtain ⟨hi0, ha⟩ := hI
  refine q_iload_n hc 2 dX4_bordersOfRoutes_4 rfl ?_
  refine q_aload_n hc 0 dX4_bordersOfRoutes_5 rfl ?_
  refine q_get hc 0 4 i4 h0 rfl (by decide) f51 rfl rfl dX4_bordersOfRoutes_6 ?_
  refine q_icmpN_ge hc 42 dX4_bordersOfRoutes_9 (by decide) (by omega) (by omega) (fun c2 => ?_) (fun c2 => ?_)
  · refine q_iload_n hc 1 dX4_bordersOfRoutes_42 rfl ?_
    exact q_iretP (z := ((a : Nat) : Int)) hc (by rw [ha, show i = nc by omega]) hr hlk dX4_bordersOfRoutes_43
  · refine q_aload_n hc 0 dX4_bordersOfRoutes_12 rfl ?_
    refine q_get hc 0 3 i4 h0 rfl (by decide) f40 rfl rfl dX4_bordersOfRoutes_13 ?_
    refine q_iload_n hc 2 dX4_bordersOfRoutes_16 rfl ?_
    refine q_nald (j := i) hc 29 h29 rfl (by omega) (by omega) dX4_bordersOfRoutes_17 ?_
    refine V.topv (show _ = Value.ref (ad (30 + 3 * i)) from rfl) ?_
    have hq3 : ws[30 + 3 * i]? = some (ad (30 + 3 * i), nO ad i (pn i) (rl i)) := hN i (by omega)
    refine q_callPz (As := []) (rest := []) hc (c_X3_isRouted l D K ws ad i (pn i) (rl i) hq3 (hrl i (by omega))) (cwV 0 hc.1.2.2.2.2 gX4_bordersOfRoutes_X3_isRouted rfl rfl rfl (by decide +kernel) ⟨Nat.le_of_ble_eq_true rfl, Nat.le_of_ble_eq_true rfl⟩) (30 + 3 * i) hq3 rfl rfl rfl (by decide) dX4_bordersOfRoutes_18 ⟨Nat.zero_le _, Nat.zero_le _⟩ ?_
    refine q_ifz_eq hc 36 dX4_bordersOfRoutes_21 (by decide) (fun c6 => ?_) (fun c6 => ?_)
    · refine q_iincN (q := 2) hc 1 [(2, .int (iZ ((i + 1 : Nat) : Int))), (0, .ref (ad 0)), (1, .int (iZ ((a : Nat) : Int)))] dX4_bordersOfRoutes_36 rfl rfl (by decide) rfl ?_
      refine q_goto hc 4 dX4_bordersOfRoutes_39 (by decide) ?_
      refine V.sub [1, 2, 0] rfl ?_
      exact ih4 (i + 1, a) (by omega) ⟨(by omega), (by have a1 := of_decide_eq_false c6; rw [sm_s, show (rl i).toNat = 0 by omega]; exact ha)⟩
    · refine q_iload_n hc 1 dX4_bordersOfRoutes_24 rfl ?_
      refine q_aload_n hc 0 dX4_bordersOfRoutes_25 rfl ?_
      refine q_get hc 0 3 i4 h0 rfl (by decide) f40 rfl rfl dX4_bordersOfRoutes_26 ?_
      refine q_iload_n hc 2 dX4_bordersOfRoutes_29 rfl ?_
      refine q_nald (j := i) hc 29 h29 rfl (by omega) (by omega) dX4_bordersOfRoutes_30 ?_
      refine V.topv (show _ = Value.ref (ad (30 + 3 * i)) from rfl) ?_
      refine q_get hc (30 + 3 * i) 3 i3 hq3 rfl (by decide) f130 rfl rfl dX4_bordersOfRoutes_31 ?_
      refine q_iadd hc dX4_bordersOfRoutes_34 ?_
      refine V.topi (show _ = ((a + (rl i).toNat : Nat) : Int) from by have a1 := of_decide_eq_true c6; have a2 := hrl i (by omega); omega) ?_
      refine q_istore_n hc [(1, .int (iZ ((a + (rl i).toNat : Nat) : Int))), (0, .ref (ad 0)), (2, .int (iZ ((i : Nat) : Int)))] dX4_bordersOfRoutes_35 rfl (by decide) rfl ?_
      refine q_iincN (q := 2) hc 1 [(2, .int (iZ ((i + 1 : Nat) : Int))), (1, .int (iZ ((a + (rl i).toNat : Nat) : Int))), (0, .ref (ad 0))] dX4_bordersOfRoutes_36 rfl rfl (by decide) rfl ?_
      refine q_goto hc 4 dX4_bordersOfRoutes_39 (by decide) ?_
      refine V.sub [2, 1, 0] rfl ?_
      exact ih4 (i + 1, a + (rl i).toNat) (by omega) ⟨(by omega), (by rw [sm_s, ha])⟩

set_option maxRecDepth 100000 in
set_option maxHeartbeats 4000000 in
theorem c_X4_isAcross (l : Launch) (D : va_G) (K : Nat → ClassId) (ws : va_W) (ad : Nat → Nat) (nc rc : Nat) (t : Nat) (pn : Nat) (rl : Int) (w h n : Nat) (k : Nat) (d : Bool) (pi : Nat → Nat) (h0 : ws[0]? = some (ad 0, xO ad nc rc)) (h1 : ws[1]? = some (ad 1, gO ad w h n)) (hno : ws[30 + 3 * t]? = some (ad (30 + 3 * t), nO ad t pn rl)) (hpi : ws[31 + 3 * t]? = some (ad (31 + 3 * t), iN K 5 pi)) (hn : n ≤ 64) (hw : 0 < w ∧ w ≤ 8 ∧ h ≤ 8) (hpn : pn ≤ 5) (hpib : ∀ k, pi k < 64) (hk : k < 8) : MPi l yX4_isAcross wsX4_isAcross ({ frames := 1, cells := 0, slots := 0, locals := 21 }) D K ws [.ref (ad 0), .ref (ad (30 + 3 * t)), .int (iZ (bZ d)), .int (iZ ((k : Nat) : Int))] (fun r => r = (iZ (bZ (acr w d k pn pi)))) := by
  refine q_entPi RX4 [(0, .ref (ad 0)), (1, .ref (ad (30 + 3 * t))), (2, .int (iZ (bZ d))), (3, .int (iZ ((k : Nat) : Int)))] (by decide) rfl rfl (Nat.le_of_ble_eq_true rfl) rfl ?_
  intro p e s m args below meth c hc hr hlk
  have i3 : ∀ w ∈ u_ws RX3 TX3 4, w ∈ wsX4_isAcross := by decide +kernel
  have f97 := hc.1.2.2.2.2 (.fieldLink RX4 97 "GlobalRoutes$Net" "pinCount" "I") (by decide +kernel)
  have i4 : ∀ w ∈ u_ws RX4 TX4 6, w ∈ wsX4_isAcross := by decide +kernel
  have f18 := hc.1.2.2.2.2 (.fieldLink RX4 18 "GlobalRoutes" "grid" "LGlobalRoutes$Grid;") (by decide +kernel)
  have f228 := hc.1.2.2.2.2 (.fieldLink RX4 228 "GlobalRoutes$Net" "pins" "[I") (by decide +kernel)
  refine q_iconstN hc 0 dX4_isAcross_0 rfl ?_
  refine q_istore hc [(4, .int (iZ ((0 : Nat) : Int))), (0, .ref (ad 0)), (1, .ref (ad (30 + 3 * t))), (2, .int (iZ (bZ d))), (3, .int (iZ ((k : Nat) : Int)))] dX4_isAcross_1 (by decide) rfl ?_
  refine q_iconstN hc 0 dX4_isAcross_3 rfl ?_
  refine q_istore hc [(5, .int (iZ ((0 : Nat) : Int))), (4, .int (iZ ((0 : Nat) : Int))), (0, .ref (ad 0)), (1, .ref (ad (30 + 3 * t))), (2, .int (iZ (bZ d))), (3, .int (iZ ((k : Nat) : Int)))] dX4_isAcross_4 (by decide) rfl ?_
  refine q_iconstN hc 0 dX4_isAcross_6 rfl ?_
  refine q_istore hc [(6, .int (iZ ((0 : Nat) : Int))), (5, .int (iZ ((0 : Nat) : Int))), (4, .int (iZ ((0 : Nat) : Int))), (0, .ref (ad 0)), (1, .ref (ad (30 + 3 * t))), (2, .int (iZ (bZ d))), (3, .int (iZ ((k : Nat) : Int)))] dX4_isAcross_7 (by decide) rfl ?_
  refine V.sub [3, 4, 5, 6, 2, 1, 0] rfl ?_
  refine V.loopP (α := Nat × Bool × Bool) (fun x => pn - x.1) (fun x => (x.1 ≤ pn) ∧ (x.2.1 = anyB (fun j => decide (plc w d (pi j) ≤ k)) x.1) ∧ (x.2.2 = anyB (fun j => decide (k < plc w d (pi j))) x.1)) (fun x => [(0, .ref (ad 0)), (1, .ref (ad (30 + 3 * t))), (2, .int (iZ (bZ d))), (3, .int (iZ ((k : Nat) : Int))), (4, .int (iZ (bZ x.2.1))), (5, .int (iZ (bZ x.2.2))), (6, .int (iZ ((x.1 : Nat) : Int)))]) (0, false, false) ⟨(Nat.zero_le _), (rfl), (rfl)⟩ rfl ?_
  intro x ih9 hI
  obtain ⟨i, b1, b2⟩ := x
  try dsimp only at ih9 hI ⊢
  obtain ⟨hi0, hb1, hb2⟩ := hI
  refine q_iload hc 6 dX4_isAcross_9 rfl ?_
  refine q_aload_n hc 1 dX4_isAcross_11 rfl ?_
  refine q_get hc (30 + 3 * t) 2 i3 hno rfl (by decide) f97 rfl rfl dX4_isAcross_12 ?_
  refine q_icmpN_ge hc 76 dX4_isAcross_15 (by decide) (by omega) (by omega) (fun c2 => ?_) (fun c2 => ?_)
  · refine q_iload hc 4 dX4_isAcross_76 rfl ?_
    refine q_ifz_eq hc 90 dX4_isAcross_78 (by decide) (fun c3 => ?_) (fun c3 => ?_)
    · refine q_iconstN hc 0 dX4_isAcross_90 rfl ?_
      exact q_zretP (b := false) hc (congrArg (fun b => iZ (bZ b)) (show false = acr w d k pn pi from by unfold acr; rw [← show i = pn by omega, ← hb1, ← hb2, c3]; rfl)) hr hlk dX4_isAcross_91
    · refine q_iload hc 5 dX4_isAcross_81 rfl ?_
      refine q_ifz_eq hc 90 dX4_isAcross_83 (by decide) (fun c4 => ?_) (fun c4 => ?_)
      · refine q_iconstN hc 0 dX4_isAcross_90 rfl ?_
        exact q_zretP (b := false) hc (congrArg (fun b => iZ (bZ b)) (show false = acr w d k pn pi from by unfold acr; rw [← show i = pn by omega, ← hb1, ← hb2, c3, c4]; rfl)) hr hlk dX4_isAcross_91
      · refine q_iconstN hc 1 dX4_isAcross_86 rfl ?_
        refine q_goto hc 91 dX4_isAcross_87 (by decide) ?_
        exact q_zretP (b := true) hc (congrArg (fun b => iZ (bZ b)) (show true = acr w d k pn pi from by unfold acr; rw [← show i = pn by omega, ← hb1, ← hb2, c3, c4]; rfl)) hr hlk dX4_isAcross_91
  · refine q_iload_n hc 2 dX4_isAcross_18 rfl ?_
    refine q_ifz_eq hc 39 dX4_isAcross_19 (by decide) (fun c5 => ?_) (fun c5 => ?_)
    · subst c5
      refine q_aload_n hc 0 dX4_isAcross_39 rfl ?_
      refine q_get hc 0 0 i4 h0 rfl (by decide) f18 rfl rfl dX4_isAcross_40 ?_
      refine q_aload_n hc 1 dX4_isAcross_43 rfl ?_
      refine q_get hc (30 + 3 * t) 0 i3 hno rfl (by decide) f228 rfl rfl dX4_isAcross_44 ?_
      refine q_iload hc 6 dX4_isAcross_47 rfl ?_
      refine q_ialdN (j := i) hc (31 + 3 * t) hpi rfl (by omega) (by omega) dX4_isAcross_49 ?_
      refine q_callPn (As := [.int (iZ ((pi i : Nat) : Int))]) (rest := []) hc (c_X0_columnOf l D K ws ad (pi i) w h n h1 hw (by have := hpib i; omega)) (cwV 1 hc.1.2.2.2.2 gX4_isAcross_X0_columnOf rfl rfl rfl (by decide +kernel) ⟨Nat.le_of_ble_eq_true rfl, Nat.le_of_ble_eq_true rfl⟩) 1 h1 rfl rfl rfl (by decide) dX4_isAcross_50 ⟨Nat.zero_le _, Nat.zero_le _⟩ ?_
      have m1 := Nat.mod_lt (pi i) hw.1; have m2 := Nat.div_le_self (pi i) w; have m3 := hpib i
      refine q_istore hc [(7, .int (iZ (((pi i) % w : Nat) : Int))), (0, .ref (ad 0)), (1, .ref (ad (30 + 3 * t))), (2, .int (iZ (bZ false))), (3, .int (iZ ((k : Nat) : Int))), (4, .int (iZ (bZ b1))), (5, .int (iZ (bZ b2))), (6, .int (iZ ((i : Nat) : Int)))] dX4_isAcross_53 (by decide) rfl ?_
      refine q_iload hc 0 dX4_isAcross_55 rfl ?_
      refine q_iload_n hc 4 dX4_isAcross_57 rfl ?_
      refine q_icmpN_gt hc 67 dX4_isAcross_58 (by decide) (by omega) (by omega) (fun c8 => ?_) (fun c8 => ?_)
      · refine q_iconstN hc 1 dX4_isAcross_67 rfl ?_
        refine q_istore hc [(5, .int (iZ ((1 : Nat) : Int))), (7, .int (iZ (((pi i) % w : Nat) : Int))), (0, .ref (ad 0)), (1, .ref (ad (30 + 3 * t))), (2, .int (iZ (bZ false))), (3, .int (iZ ((k : Nat) : Int))), (4, .int (iZ (bZ b1))), (6, .int (iZ ((i : Nat) : Int)))] dX4_isAcross_68 (by decide) rfl ?_
        refine q_iincN (q := 7) hc 1 [(6, .int (iZ ((i + 1 : Nat) : Int))), (5, .int (iZ ((1 : Nat) : Int))), (7, .int (iZ (((pi i) % w : Nat) : Int))), (0, .ref (ad 0)), (1, .ref (ad (30 + 3 * t))), (2, .int (iZ (bZ false))), (3, .int (iZ ((k : Nat) : Int))), (4, .int (iZ (bZ b1)))] dX4_isAcross_70 rfl rfl (by decide) rfl ?_
        refine q_goto hc 9 dX4_isAcross_73 (by decide) ?_
        refine V.sub [3, 4, 5, 6, 7, 1, 0] rfl ?_
        exact ih9 (i + 1, b1, true) (by omega) ⟨(by omega), (anyB_f hb1 (decide_eq_false (show ¬ pi i % w ≤ k by omega))), (anyB_t (decide_eq_true (show k < pi i % w by omega)))⟩
      · refine q_iconstN hc 1 dX4_isAcross_61 rfl ?_
        refine q_istore hc [(4, .int (iZ ((1 : Nat) : Int))), (7, .int (iZ (((pi i) % w : Nat) : Int))), (0, .ref (ad 0)), (1, .ref (ad (30 + 3 * t))), (2, .int (iZ (bZ false))), (3, .int (iZ ((k : Nat) : Int))), (5, .int (iZ (bZ b2))), (6, .int (iZ ((i : Nat) : Int)))] dX4_isAcross_62 (by decide) rfl ?_
        refine q_goto hc 70 dX4_isAcross_64 (by decide) ?_
        refine q_iincN (q := 7) hc 1 [(6, .int (iZ ((i + 1 : Nat) : Int))), (4, .int (iZ ((1 : Nat) : Int))), (7, .int (iZ (((pi i) % w : Nat) : Int))), (0, .ref (ad 0)), (1, .ref (ad (30 + 3 * t))), (2, .int (iZ (bZ false))), (3, .int (iZ ((k : Nat) : Int))), (5, .int (iZ (bZ b2)))] dX4_isAcross_70 rfl rfl (by decide) rfl ?_
        refine q_goto hc 9 dX4_isAcross_73 (by decide) ?_
        refine V.sub [3, 4, 5, 6, 1, 7, 0] rfl ?_
        exact ih9 (i + 1, true, b2) (by omega) ⟨(by omega), (anyB_t (decide_eq_true (show pi i % w ≤ k by omega))), (anyB_f hb2 (decide_eq_false (show ¬ k < pi i % w by omega)))⟩
    · subst c5
      refine q_aload_n hc 0 dX4_isAcross_22 rfl ?_
      refine q_get hc 0 0 i4 h0 rfl (by decide) f18 rfl rfl dX4_isAcross_23 ?_
      refine q_aload_n hc 1 dX4_isAcross_26 rfl ?_
      refine q_get hc (30 + 3 * t) 0 i3 hno rfl (by decide) f228 rfl rfl dX4_isAcross_27 ?_
      refine q_iload hc 6 dX4_isAcross_30 rfl ?_
      refine q_ialdN (j := i) hc (31 + 3 * t) hpi rfl (by omega) (by omega) dX4_isAcross_32 ?_
      refine q_callPn (As := [.int (iZ ((pi i : Nat) : Int))]) (rest := []) hc (c_X0_rowOf l D K ws ad (pi i) w h n h1 hw (by have := hpib i; omega)) (cwV 1 hc.1.2.2.2.2 gX4_isAcross_X0_rowOf rfl rfl rfl (by decide +kernel) ⟨Nat.le_of_ble_eq_true rfl, Nat.le_of_ble_eq_true rfl⟩) 1 h1 rfl rfl rfl (by decide) dX4_isAcross_33 ⟨Nat.zero_le _, Nat.zero_le _⟩ ?_
      refine q_goto hc 53 dX4_isAcross_36 (by decide) ?_
      have m1 := Nat.mod_lt (pi i) hw.1; have m2 := Nat.div_le_self (pi i) w; have m3 := hpib i
      refine q_istore hc [(7, .int (iZ (((pi i) / w : Nat) : Int))), (0, .ref (ad 0)), (1, .ref (ad (30 + 3 * t))), (2, .int (iZ (bZ true))), (3, .int (iZ ((k : Nat) : Int))), (4, .int (iZ (bZ b1))), (5, .int (iZ (bZ b2))), (6, .int (iZ ((i : Nat) : Int)))] dX4_isAcross_53 (by decide) rfl ?_
      refine q_iload hc 0 dX4_isAcross_55 rfl ?_
      refine q_iload_n hc 4 dX4_isAcross_57 rfl ?_
      refine q_icmpN_gt hc 67 dX4_isAcross_58 (by decide) (by omega) (by omega) (fun c11 => ?_) (fun c11 => ?_)
      · refine q_iconstN hc 1 dX4_isAcross_67 rfl ?_
        refine q_istore hc [(5, .int (iZ ((1 : Nat) : Int))), (7, .int (iZ (((pi i) / w : Nat) : Int))), (0, .ref (ad 0)), (1, .ref (ad (30 + 3 * t))), (2, .int (iZ (bZ true))), (3, .int (iZ ((k : Nat) : Int))), (4, .int (iZ (bZ b1))), (6, .int (iZ ((i : Nat) : Int)))] dX4_isAcross_68 (by decide) rfl ?_
        refine q_iincN (q := 7) hc 1 [(6, .int (iZ ((i + 1 : Nat) : Int))), (5, .int (iZ ((1 : Nat) : Int))), (7, .int (iZ (((pi i) / w : Nat) : Int))), (0, .ref (ad 0)), (1, .ref (ad (30 + 3 * t))), (2, .int (iZ (bZ true))), (3, .int (iZ ((k : Nat) : Int))), (4, .int (iZ (bZ b1)))] dX4_isAcross_70 rfl rfl (by decide) rfl ?_
        refine q_goto hc 9 dX4_isAcross_73 (by decide) ?_
        refine V.sub [3, 4, 5, 6, 7, 1, 0] rfl ?_
        exact ih9 (i + 1, b1, true) (by omega) ⟨(by omega), (anyB_f hb1 (decide_eq_false (show ¬ pi i / w ≤ k by omega))), (anyB_t (decide_eq_true (show k < pi i / w by omega)))⟩
      · refine q_iconstN hc 1 dX4_isAcross_61 rfl ?_
        refine q_istore hc [(4, .int (iZ ((1 : Nat) : Int))), (7, .int (iZ (((pi i) / w : Nat) : Int))), (0, .ref (ad 0)), (1, .ref (ad (30 + 3 * t))), (2, .int (iZ (bZ true))), (3, .int (iZ ((k : Nat) : Int))), (5, .int (iZ (bZ b2))), (6, .int (iZ ((i : Nat) : Int)))] dX4_isAcross_62 (by decide) rfl ?_
        refine q_goto hc 70 dX4_isAcross_64 (by decide) ?_
        refine q_iincN (q := 7) hc 1 [(6, .int (iZ ((i + 1 : Nat) : Int))), (4, .int (iZ ((1 : Nat) : Int))), (7, .int (iZ (((pi i) / w : Nat) : Int))), (0, .ref (ad 0)), (1, .ref (ad (30 + 3 * t))), (2, .int (iZ (bZ true))), (3, .int (iZ ((k : Nat) : Int))), (5, .int (iZ (bZ b2)))] dX4_isAcross_70 rfl rfl (by decide) rfl ?_
        refine q_goto hc 9 dX4_isAcross_73 (by decide) ?_
        refine V.sub [3, 4, 5, 6, 1, 7, 0] rfl ?_
        exact ih9 (i + 1, true, b2) (by omega) ⟨(by omega), (anyB_t (decide_eq_true (show pi i / w ≤ k by omega))), (anyB_f hb2 (decide_eq_false (show ¬ k < pi i / w by omega)))⟩

set_option maxRecDepth 100000 in
set_option maxHeartbeats 4000000 in
theorem c_X4_netsAcross (l : Launch) (D : va_G) (K : Nat → ClassId) (ws : va_W) (ad : Nat → Nat) (nc rc : Nat) (w h n : Nat) (k : Nat) (d : Bool) (pn : Nat → Nat) (rl : Nat → Int) (pi : Nat → Nat → Nat) (h0 : ws[0]? = some (ad 0, xO ad nc rc)) (h1 : ws[1]? = some (ad 1, gO ad w h n)) (h29 : ws[29]? = some (ad 29, nA K 12 (nF ad))) (hN : ∀ s, s < 12 → ws[30 + 3 * s]? = some (ad (30 + 3 * s), nO ad s (pn s) (rl s))) (hP : ∀ s, s < 12 → ws[31 + 3 * s]? = some (ad (31 + 3 * s), iN K 5 (pi s))) (hn : n ≤ 64) (hw : 0 < w ∧ w ≤ 8 ∧ h ≤ 8) (hnc : nc ≤ 12) (hpn : ∀ j, j < nc → pn j ≤ 5) (hpif : ∀ j k, j < nc → pi j k < 64) (hk : k < 8) : MPi l yX4_netsAcross wsX4_netsAcross ({ frames := 2, cells := 0, slots := 0, locals := 48 }) D K ws [.ref (ad 0), .int (iZ (bZ d)), .int (iZ ((k : Nat) : Int))] (fun r => r = (iZ ((cnt (fun j => acr w d k (pn j) (pi j)) nc : Nat) : Int))) := by
  refine q_entPi RX4 [(0, .ref (ad 0)), (1, .int (iZ (bZ d))), (2, .int (iZ ((k : Nat) : Int)))] (by decide) rfl rfl (Nat.le_of_ble_eq_true rfl) rfl ?_
  intro p e s m args below meth c hc hr hlk
  have i4 : ∀ w ∈ u_ws RX4 TX4 6, w ∈ wsX4_netsAcross := by decide +kernel
  have f51 := hc.1.2.2.2.2 (.fieldLink RX4 51 "GlobalRoutes" "netCount" "I") (by decide +kernel)
  have f40 := hc.1.2.2.2.2 (.fieldLink RX4 40 "GlobalRoutes" "nets" "[LGlobalRoutes$Net;") (by decide +kernel)
  refine q_iconstN hc 0 dX4_netsAcross_0 rfl ?_
  refine q_istore_n hc [(3, .int (iZ ((0 : Nat) : Int))), (0, .ref (ad 0)), (1, .int (iZ (bZ d))), (2, .int (iZ ((k : Nat) : Int)))] dX4_netsAcross_1 rfl (by decide) rfl ?_
  refine q_iconstN hc 0 dX4_netsAcross_2 rfl ?_
  refine q_istore hc [(4, .int (iZ ((0 : Nat) : Int))), (3, .int (iZ ((0 : Nat) : Int))), (0, .ref (ad 0)), (1, .int (iZ (bZ d))), (2, .int (iZ ((k : Nat) : Int)))] dX4_netsAcross_3 (by decide) rfl ?_
  refine V.sub [2, 3, 4, 1, 0] rfl ?_
  refine V.loopP (α := Nat × Nat) (fun x => nc - x.1) (fun x => (x.1 ≤ nc) ∧ (x.2 = cnt (fun j => acr w d k (pn j) (pi j)) x.1)) (fun x => [(0, .ref (ad 0)), (1, .int (iZ (bZ d))), (2, .int (iZ ((k : Nat) : Int))), (3, .int (iZ ((x.2 : Nat) : Int))), (4, .int (iZ ((x.1 : Nat) : Int)))]) (0, 0) ⟨(Nat.zero_le _), (rfl)⟩ rfl ?_
  intro x ih5 hI
  obtain ⟨i, a⟩ := x
  try dsimp only at ih5 hI ⊢
  obtain ⟨hi0, ha⟩ := hI
  refine q_iload hc 4 dX4_netsAcross_5 rfl ?_
  refine q_aload_n hc 0 dX4_netsAcross_7 rfl ?_
  refine q_get hc 0 4 i4 h0 rfl (by decide) f51 rfl rfl dX4_netsAcross_8 ?_
  refine q_icmpN_ge hc 39 dX4_netsAcross_11 (by decide) (by omega) (by omega) (fun c2 => ?_) (fun c2 => ?_)
  · refine q_iload_n hc 3 dX4_netsAcross_39 rfl ?_
    exact q_iretP (z := ((a : Nat) : Int)) hc (by rw [ha, show i = nc by omega]) hr hlk dX4_netsAcross_40
  · refine q_aload_n hc 0 dX4_netsAcross_14 rfl ?_
    refine q_aload_n hc 0 dX4_netsAcross_15 rfl ?_
    refine q_get hc 0 3 i4 h0 rfl (by decide) f40 rfl rfl dX4_netsAcross_16 ?_
    refine q_iload hc 4 dX4_netsAcross_19 rfl ?_
    refine q_nald (j := i) hc 29 h29 rfl (by omega) (by omega) dX4_netsAcross_21 ?_
    refine V.topv (show _ = Value.ref (ad (30 + 3 * i)) from rfl) ?_
    refine q_iload_n hc 1 dX4_netsAcross_22 rfl ?_
    refine q_iload_n hc 2 dX4_netsAcross_23 rfl ?_
    have hq3 : ws[30 + 3 * i]? = some (ad (30 + 3 * i), nO ad i (pn i) (rl i)) := hN i (by omega)
    have hq4 : ws[31 + 3 * i]? = some (ad (31 + 3 * i), iN K 5 (pi i)) := hP i (by omega)
    refine q_callPz (As := [.ref (ad (30 + 3 * i)), .int (iZ (bZ d)), .int (iZ ((k : Nat) : Int))]) (rest := []) hc (c_X4_isAcross l D K ws ad nc rc i (pn i) (rl i) w h n k d (pi i) h0 h1 hq3 hq4 (by omega) hw (hpn i (by omega)) (fun k9 => hpif i k9 (by omega)) (by omega)) (cwV 3 hc.1.2.2.2.2 gX4_netsAcross_X4_isAcross rfl rfl rfl (by decide +kernel) ⟨Nat.le_of_ble_eq_true rfl, Nat.le_of_ble_eq_true rfl⟩) 0 h0 rfl rfl rfl (by decide) dX4_netsAcross_24 ⟨Nat.zero_le _, Nat.zero_le _⟩ ?_
    refine q_ifz_eq hc 33 dX4_netsAcross_27 (by decide) (fun c7 => ?_) (fun c7 => ?_)
    · refine q_iincN (q := 4) hc 1 [(4, .int (iZ ((i + 1 : Nat) : Int))), (0, .ref (ad 0)), (1, .int (iZ (bZ d))), (2, .int (iZ ((k : Nat) : Int))), (3, .int (iZ ((a : Nat) : Int)))] dX4_netsAcross_33 rfl rfl (by decide) rfl ?_
      refine q_goto hc 5 dX4_netsAcross_36 (by decide) ?_
      refine V.sub [1, 2, 3, 4, 0] rfl ?_
      exact ih5 (i + 1, a) (by omega) ⟨(by omega), (by rw [cnt_s, if_neg (by rw [c7]; decide)]; exact ha)⟩
    · refine q_iincN (q := 3) hc 1 [(3, .int (iZ ((a + 1 : Nat) : Int))), (0, .ref (ad 0)), (1, .int (iZ (bZ d))), (2, .int (iZ ((k : Nat) : Int))), (4, .int (iZ ((i : Nat) : Int)))] dX4_netsAcross_30 rfl rfl (by decide) rfl ?_
      refine q_iincN (q := 4) hc 1 [(4, .int (iZ ((i + 1 : Nat) : Int))), (3, .int (iZ ((a + 1 : Nat) : Int))), (0, .ref (ad 0)), (1, .int (iZ (bZ d))), (2, .int (iZ ((k : Nat) : Int)))] dX4_netsAcross_33 rfl rfl (by decide) rfl ?_
      refine q_goto hc 5 dX4_netsAcross_36 (by decide) ?_
      refine V.sub [2, 3, 4, 1, 0] rfl ?_
      exact ih5 (i + 1, a + 1) (by omega) ⟨(by omega), (by rw [cnt_s, ha, if_pos c7])⟩

set_option maxRecDepth 100000 in
set_option maxHeartbeats 4000000 in
theorem c_X4_forget (l : Launch) (D : va_G) (K : Nat → ClassId) (ws : va_W) (ad : Nat → Nat) (nc rc : Nat) (w h n : Nat) (hi : Nat → Nat) (h0 : ws[0]? = some (ad 0, xO ad nc rc)) (h1 : ws[1]? = some (ad 1, gO ad w h n)) (h4 : ws[4]? = some (ad 4, iN K (2 * n) hi)) (hn : n ≤ 64) (hhi : ∀ k, k < 2 * n → hi k ≤ 5120) : MMl l yX4_forget wsX4_forget ({ frames := 0, cells := 0, slots := 0, locals := 0 }) D K ws [.ref (ad 0)] (fun r u => (r = (jZ ((sm hi (2 * n) : Nat) : Int))) ∧ (u[4]? = some (ad 4, iN K (2 * n) (fun _ => 0))) ∧ (Fr (fun j => j = 4) ws u)) := by
  refine q_entMl RX4 [(0, .ref (ad 0))] (by decide) rfl rfl (Nat.le_of_ble_eq_true rfl) rfl ?_
  intro p e s m args below meth c hc hr hlk
  have i4 : ∀ w ∈ u_ws RX4 TX4 6, w ∈ wsX4_forget := by decide +kernel
  have f18 := hc.1.2.2.2.2 (.fieldLink RX4 18 "GlobalRoutes" "grid" "LGlobalRoutes$Grid;") (by decide +kernel)
  have i0 : ∀ w ∈ u_ws RX0 TX0 9, w ∈ wsX4_forget := by decide +kernel
  have f44 := hc.1.2.2.2.2 (.fieldLink RX4 44 "GlobalRoutes$Grid" "borders" "I") (by decide +kernel)
  have f127 := hc.1.2.2.2.2 (.fieldLink RX4 127 "GlobalRoutes$Grid" "histories" "[I") (by decide +kernel)
  have fr0 : Fr (fun j => j = 4) ws ws := Fr.rfl
  refine q_lconst (z := 0) hc dX4_forget_0 (by decide +kernel) ?_
  refine q_lstore_n hc [(1, .long (jZ 0)), (0, .ref (ad 0))] dX4_forget_1 rfl (by decide) rfl ?_
  refine q_iconstN hc 0 dX4_forget_2 rfl ?_
  refine q_istore_n hc [(3, .int (iZ ((0 : Nat) : Int))), (1, .long (jZ 0)), (0, .ref (ad 0))] dX4_forget_3 rfl (by decide) rfl ?_
  refine V.sub [2, 1, 0] rfl ?_
  refine V.loop (α := Nat × Nat × (Nat → Nat)) (fun x => 2 * n - x.1) (fun x u => (x.1 ≤ 2 * n) ∧ (x.2.1 = sm hi x.1) ∧ (∀ k, x.2.2 k = if k < x.1 then 0 else hi k) ∧ (u[4]? = some (ad 4, iN K (2 * n) x.2.2)) ∧ (Fr (fun j => j = 4) ws u)) (fun x => [(0, .ref (ad 0)), (1, .long (jZ ((x.2.1 : Nat) : Int))), (3, .int (iZ ((x.1 : Nat) : Int)))]) (0, 0, hi) ⟨(Nat.zero_le _), (rfl), (fun k => by simp), (h4), (Fr.rfl)⟩ rfl ?_
  intro x ih4 u1 hI
  obtain ⟨i, a, f⟩ := x
  try dsimp only at ih4 hI ⊢
  obtain ⟨hi0, ha, hf, hq2, fr3⟩ := hI
  have hq4 := (fr3.at 0 (by omega)).trans h0
  have hq5 := (fr3.at 1 (by omega)).trans h1
  refine q_iload_n hc 2 dX4_forget_4 rfl ?_
  refine q_aload_n hc 0 dX4_forget_5 rfl ?_
  refine q_get hc 0 0 i4 hq4 rfl (by decide) f18 rfl rfl dX4_forget_6 ?_
  refine q_get hc 1 3 i0 hq5 rfl (by decide) f44 rfl rfl dX4_forget_9 ?_
  refine q_icmpN_ge hc 44 dX4_forget_12 (by decide) (by omega) (by omega) (fun c6 => ?_) (fun c6 => ?_)
  · obtain rfl : i = 2 * n := by omega
    subst ha
    refine q_norm_iN (g := fun _ => 0) hc 4 hq2 (fun k hk => by rw [hf k, if_pos hk]) (fun u7 hn' hf' => ?_)
    have hq8 : u7[4]? = some (ad 4, iN K (2 * n) (fun _ => 0)) := hn'
    have hq9 := (hf' 0 (by omega)).trans hq4
    have hq10 := (hf' 1 (by omega)).trans hq5
    have fr11 := Fr.one hf'
    refine q_lload_n hc 1 dX4_forget_44 rfl ?_
    exact q_lretM (z := (((sm hi (2 * n)) : Nat) : Int)) hc (⟨rfl, hq8, ((fr0.trans fr3 (fun _ _ => by omega)).trans fr11 (fun _ _ => by omega))⟩) hr hlk dX4_forget_45
  · refine q_lload_n hc 1 dX4_forget_15 rfl ?_
    refine q_aload_n hc 0 dX4_forget_16 rfl ?_
    refine q_get hc 0 0 i4 hq4 rfl (by decide) f18 rfl rfl dX4_forget_17 ?_
    refine q_get hc 1 6 i0 hq5 rfl (by decide) f127 rfl rfl dX4_forget_20 ?_
    refine q_iload_n hc 2 dX4_forget_23 rfl ?_
    refine q_ialdN (j := i) hc 4 hq2 rfl (by omega) (by omega) dX4_forget_24 ?_
    have e8 : f i = hi i := by rw [hf i, if_neg (by omega)]
    have hb9 := hhi i (by omega)
    refine q_i2l hc dX4_forget_25 (by omega) ?_
    refine q_ladd hc dX4_forget_26 ?_
    refine V.topj (show _ = ((a + hi i : Nat) : Int) from by rw [e8]; omega) ?_
    refine q_lstore_n hc [(1, .long (jZ ((a + hi i : Nat) : Int))), (0, .ref (ad 0)), (3, .int (iZ ((i : Nat) : Int)))] dX4_forget_27 rfl (by decide) rfl ?_
    refine q_aload_n hc 1 dX4_forget_28 rfl ?_
    refine q_get hc 0 0 i4 hq4 rfl (by decide) f18 rfl rfl dX4_forget_29 ?_
    refine q_get hc 1 6 i0 hq5 rfl (by decide) f127 rfl rfl dX4_forget_32 ?_
    refine q_iload_n hc 2 dX4_forget_35 rfl ?_
    refine q_iconstN hc 0 dX4_forget_36 rfl ?_
    refine q_iastN (j := i) (x := 0) hc 4 hq2 rfl (by omega) (by omega) dX4_forget_37 (fun u12 hn' hf' => ?_)
    have hq13 : u12[4]? = some (ad 4, iN K (2 * n) (va_up f i 0)) := hn'
    have hq14 := (hf' 0 (by omega)).trans hq4
    have hq15 := (hf' 1 (by omega)).trans hq5
    have fr16 := Fr.one hf'
    refine q_iincN (q := 2) hc 1 [(3, .int (iZ ((i + 1 : Nat) : Int))), (1, .long (jZ ((a + hi i : Nat) : Int))), (0, .ref (ad 0))] dX4_forget_38 rfl rfl (by decide) rfl ?_
    refine q_goto hc 4 dX4_forget_41 (by decide) ?_
    refine V.sub [2, 1, 0] rfl ?_
    exact ih4 (i + 1, a + hi i, va_up f i 0) _ (by omega) ⟨(by omega), (by rw [sm_s, ha]), (upd_hf (g := fun _ => 0) hf), (hq13), ((fr3.trans fr16 (fun _ _ => by omega)))⟩
