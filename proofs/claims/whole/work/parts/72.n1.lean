
set_option maxRecDepth 100000 in
set_option maxHeartbeats 8000000 in
theorem c_X3_init (l : Launch) (D : va_G) (K : Nat → ClassId) (ws : va_W) (ad : Nat → Nat) (s0 : Nat) (had : ∀ k, ad k = s0 + k) (i n : Nat) (hno : ws[30 + 3 * i]? = some (ad (30 + 3 * i), .inr (3, [.null, .null, .int 0, .int 0]))) (hE : ws[31 + 3 * i]? = none) (hn : n ≤ 64) : MNv l yX3_init wsX3_init ({ frames := 1, cells := 2, slots := 133, locals := 20 }) D K ws [.ref (ad (30 + 3 * i)), .int (iZ ((2 * n : Nat) : Int))] (s0 + (31 + 3 * i)) 2 133 (fun u => (u[30 + 3 * i]? = some (ad (30 + 3 * i), nO ad i 0 (-1))) ∧ (u[31 + 3 * i]? = some (ad (31 + 3 * i), iN K 5 (fun _ => 0))) ∧ (u[32 + 3 * i]? = some (ad (32 + 3 * i), zA K (2 * n) (fun _ => false))) ∧ (u[33 + 3 * i]? = none) ∧ (Fr (fun j => 30 + 3 * i ≤ j) ws u)) := by
  refine q_entNv RX3 [(0, .ref (ad (30 + 3 * i))), (1, .int (iZ ((2 * n : Nat) : Int)))] (by decide) rfl rfl (Nat.le_of_ble_eq_true rfl) rfl rfl ?_
  intro p e s m args below meth c hc hAO hin hsz hr hlk
  have i3 : ∀ w ∈ u_ws RX3 TX3 4, w ∈ wsX3_init := by decide +kernel
  have f9 := hc.1.2.2.2.2 (.fieldLink RX3 9 "GlobalRoutes$Net" "pins" "[I") (by decide +kernel)
  have f15 := hc.1.2.2.2.2 (.fieldLink RX3 15 "GlobalRoutes$Net" "route" "[Z") (by decide +kernel)
  have f19 := hc.1.2.2.2.2 (.fieldLink RX3 19 "GlobalRoutes$Net" "pinCount" "I") (by decide +kernel)
  have f23 := hc.1.2.2.2.2 (.fieldLink RX3 23 "GlobalRoutes$Net" "routeLength" "I") (by decide +kernel)
  have fr0 : Fr (fun j => 30 + 3 * i ≤ j) ws ws := Fr.rfl
  refine q_aload_n hc 0 dX3_init_0 rfl ?_
  refine q_objInit hc (by decide +kernel) (by decide +kernel) (by decide +kernel) (by decide) (by simp) dX3_init_1 ?_
  refine q_aload_n hc 0 dX3_init_4 rfl ?_
  refine q_iconstN hc 5 dX3_init_5 rfl ?_
  have hl9 : ws.length = 31 + 3 * i := len_of hno hE (by omega)
  have ho9 : Lo D ws s.heap.size _ := Lo.of hno (show s.heap.size + (0) = ad (30 + 3 * i) + 1 by have e1 := had (30 + 3 * i); omega)
  refine q_newIN (n := 5) (b := ad (31 + 3 * i)) hc hl9 ho9 (by have e1 := had (31 + 3 * i); omega) (by decide +kernel) (by omega) ⟨by dsimp only; omega, by dsimp only; omega⟩ dX3_init_6 (fun u1 hn' hf' => ?_)
  have hq2 : u1[31 + 3 * i]? = some (ad (31 + 3 * i), iN K 5 (fun _ => 0)) := hn'
  have hq3 : u1[32 + 3 * i]? = none := (hf' (32 + 3 * i) (by omega)).trans (List.getElem?_eq_none (by omega))
  have hq4 := (hf' (30 + 3 * i) (by omega)).trans hno
  have fr5 := Fr.one hf'
  refine q_putF (ty := .array .int) (fs' := [.ref (ad (31 + 3 * i)), .null, .int 0, .int 0]) hc (30 + 3 * i) 0 i3 tyX3 tyX3_ok nmX3 hq4 rfl (by decide) f9 rfl rfl hin rfl (by decide +kernel) rfl rfl (Nat.le_of_ble_eq_true rfl) rfl dX3_init_8 (fun u6 hn' hf' => ?_)
  have hq7 : u6[30 + 3 * i]? = some (ad (30 + 3 * i), .inr (3, [.ref (ad (31 + 3 * i)), .null, .int 0, .int 0])) := hn'
  have hq8 := (hf' (31 + 3 * i) (by omega)).trans hq2
  have hq9 := (hf' (32 + 3 * i) (by omega)).trans hq3
  have fr10 := Fr.one hf'
  refine q_aload_n hc 0 dX3_init_11 rfl ?_
  refine q_iload_n hc 1 dX3_init_12 rfl ?_
  have hl9 : u6.length = 32 + 3 * i := len_of hq8 hq9 (by omega)
  have ho9 : Lo D u6 s.heap.size _ := Lo.of hq8 (show s.heap.size + (0 + 1) = ad (31 + 3 * i) + 1 by have e1 := had (31 + 3 * i); omega)
  refine q_newZ (n := 2 * n) (b := ad (32 + 3 * i)) hc hl9 ho9 (by have e1 := had (32 + 3 * i); omega) (by decide +kernel) (by omega) ⟨by dsimp only; omega, by dsimp only; omega⟩ dX3_init_13 (fun u11 hn' hf' => ?_)
  have hq12 : u11[32 + 3 * i]? = some (ad (32 + 3 * i), zA K (2 * n) (fun _ => false)) := hn'
  have hq13 : u11[33 + 3 * i]? = none := (hf' (33 + 3 * i) (by omega)).trans (List.getElem?_eq_none (by omega))
  have hq14 := (hf' (30 + 3 * i) (by omega)).trans hq7
  have hq15 := (hf' (31 + 3 * i) (by omega)).trans hq8
  have fr16 := Fr.one hf'
  refine q_putF (ty := .array .boolean) (fs' := [.ref (ad (31 + 3 * i)), .ref (ad (32 + 3 * i)), .int 0, .int 0]) hc (30 + 3 * i) 1 i3 tyX3 tyX3_ok nmX3 hq14 rfl (by decide) f15 rfl rfl hin rfl (by decide +kernel) rfl rfl (Nat.le_of_ble_eq_true rfl) rfl dX3_init_15 (fun u17 hn' hf' => ?_)
  have hq18 : u17[30 + 3 * i]? = some (ad (30 + 3 * i), .inr (3, [.ref (ad (31 + 3 * i)), .ref (ad (32 + 3 * i)), .int 0, .int 0])) := hn'
  have hq19 := (hf' (31 + 3 * i) (by omega)).trans hq15
  have hq20 := (hf' (32 + 3 * i) (by omega)).trans hq12
  have hq21 := (hf' (33 + 3 * i) (by omega)).trans hq13
  have fr22 := Fr.one hf'
  refine q_aload_n hc 0 dX3_init_18 rfl ?_
  refine q_iconstN hc 0 dX3_init_19 rfl ?_
  refine q_put (ty := .int) (fs' := [.ref (ad (31 + 3 * i)), .ref (ad (32 + 3 * i)), .int (iZ ((0 : Nat) : Int)), .int 0]) hc (30 + 3 * i) 2 i3 tyX3 tyX3_ok nmX3 hq18 rfl (by decide) f19 rfl rfl (by decide +kernel) rfl rfl (Nat.le_of_ble_eq_true rfl) rfl dX3_init_20 (fun u23 hn' hf' => ?_)
  have hq24 : u23[30 + 3 * i]? = some (ad (30 + 3 * i), .inr (3, [.ref (ad (31 + 3 * i)), .ref (ad (32 + 3 * i)), .int (iZ ((0 : Nat) : Int)), .int 0])) := hn'
  have hq25 := (hf' (31 + 3 * i) (by omega)).trans hq19
  have hq26 := (hf' (32 + 3 * i) (by omega)).trans hq20
  have hq27 := (hf' (33 + 3 * i) (by omega)).trans hq21
  have fr28 := Fr.one hf'
  refine q_aload_n hc 0 dX3_init_23 rfl ?_
  refine q_iconst hc dX3_init_24 ?_
  refine q_put (ty := .int) (fs' := [.ref (ad (31 + 3 * i)), .ref (ad (32 + 3 * i)), .int (iZ ((0 : Nat) : Int)), .int (iZ (-1))]) hc (30 + 3 * i) 3 i3 tyX3 tyX3_ok nmX3 hq24 rfl (by decide) f23 rfl rfl (by decide +kernel) rfl rfl (Nat.le_of_ble_eq_true rfl) rfl dX3_init_25 (fun u29 hn' hf' => ?_)
  have hq30 : u29[30 + 3 * i]? = some (ad (30 + 3 * i), .inr (3, [.ref (ad (31 + 3 * i)), .ref (ad (32 + 3 * i)), .int (iZ ((0 : Nat) : Int)), .int (iZ (-1))])) := hn'
  have hq31 := (hf' (31 + 3 * i) (by omega)).trans hq25
  have hq32 := (hf' (32 + 3 * i) (by omega)).trans hq26
  have hq33 := (hf' (33 + 3 * i) (by omega)).trans hq27
  have fr34 := Fr.one hf'
  exact q_vretN hc (⟨hq30, hq31, hq32, hq33, ((((((fr0.trans fr5 (fun _ _ => by omega)).trans fr10 (fun _ _ => by omega)).trans fr16 (fun _ _ => by omega)).trans fr22 (fun _ _ => by omega)).trans fr28 (fun _ _ => by omega)).trans fr34 (fun _ _ => by omega))⟩) hr hlk ⟨by omega, by omega⟩ dX3_init_28

set_option maxRecDepth 100000 in
set_option maxHeartbeats 8000000 in
theorem c_X1_init (l : Launch) (D : va_G) (K : Nat → ClassId) (ws : va_W) (ad : Nat → Nat) (s0 : Nat) (had : ∀ k, ad k = s0 + k) (w h n : Nat) (h1 : ws[1]? = some (ad 1, gO ad w h n)) (h7 : ws[7]? = some (ad 7, .inr (1, [.null, .null, .null, .null]))) (hE : ws[8]? = none) (hn : n ≤ 64) : MNv l yX1_init wsX1_init ({ frames := 1, cells := 3, slots := 256, locals := 20 }) D K ws [.ref (ad 7), .ref (ad 1)] (s0 + (8)) 3 256 (fun u => (u[7]? = some (ad 7, lO ad)) ∧ (u[8]? = some (ad 8, iN K (2 * n) (fun _ => 0))) ∧ (u[9]? = some (ad 9, iN K n (fun _ => 0))) ∧ (u[10]? = some (ad 10, zA K n (fun _ => false))) ∧ (u[11]? = none) ∧ (Fr (fun j => 7 ≤ j) ws u)) := by
  refine q_entNv RX1 [(0, .ref (ad 7)), (1, .ref (ad 1))] (by decide) rfl rfl (Nat.le_of_ble_eq_true rfl) rfl rfl ?_
  intro p e s m args below meth c hc hAO hin hsz hr hlk
  have i1 : ∀ w ∈ u_ws RX1 TX1 4, w ∈ wsX1_init := by decide +kernel
  have f9 := hc.1.2.2.2.2 (.fieldLink RX1 9 "GlobalRoutes$Leader" "grid" "LGlobalRoutes$Grid;") (by decide +kernel)
  have i0 : ∀ w ∈ u_ws RX0 TX0 9, w ∈ wsX1_init := by decide +kernel
  have f15 := hc.1.2.2.2.2 (.fieldLink RX1 15 "GlobalRoutes$Grid" "borders" "I") (by decide +kernel)
  have f21 := hc.1.2.2.2.2 (.fieldLink RX1 21 "GlobalRoutes$Leader" "costs" "[I") (by decide +kernel)
  have f25 := hc.1.2.2.2.2 (.fieldLink RX1 25 "GlobalRoutes$Grid" "cells" "I") (by decide +kernel)
  have f28 := hc.1.2.2.2.2 (.fieldLink RX1 28 "GlobalRoutes$Leader" "distances" "[I") (by decide +kernel)
  have f31 := hc.1.2.2.2.2 (.fieldLink RX1 31 "GlobalRoutes$Leader" "tree" "[Z") (by decide +kernel)
  have fr0 : Fr (fun j => 7 ≤ j) ws ws := Fr.rfl
  refine q_aload_n hc 0 dX1_init_0 rfl ?_
  refine q_objInit hc (by decide +kernel) (by decide +kernel) (by decide +kernel) (by decide) (by simp) dX1_init_1 ?_
  refine q_aload_n hc 0 dX1_init_4 rfl ?_
  refine q_aload_n hc 1 dX1_init_5 rfl ?_
  refine q_putF (ty := .object "GlobalRoutes$Grid") (fs' := [.ref (ad 1), .null, .null, .null]) hc 7 0 i1 tyX1 tyX1_ok nmX1 h7 rfl (by decide) f9 rfl rfl hin rfl (by decide +kernel) rfl rfl (Nat.le_of_ble_eq_true rfl) rfl dX1_init_6 (fun u1 hn' hf' => ?_)
  have hq2 : u1[7]? = some (ad 7, .inr (1, [.ref (ad 1), .null, .null, .null])) := hn'
  have hq3 := (hf' 1 (by omega)).trans h1
  have hq4 := (hf' 8 (by omega)).trans hE
  have fr5 := Fr.one hf'
  refine q_aload_n hc 0 dX1_init_9 rfl ?_
  refine q_aload_n hc 1 dX1_init_10 rfl ?_
  refine q_get hc 1 3 i0 hq3 rfl (by decide) f15 rfl rfl dX1_init_11 ?_
  have hl9 : u1.length = 8 := len_of hq2 hq4 (by omega)
  have ho9 : Lo D u1 s.heap.size _ := Lo.of hq2 (show s.heap.size + (0) = ad 7 + 1 by have e1 := had 7; omega)
  refine q_newIN (n := 2 * n) (b := ad 8) hc hl9 ho9 (by have e1 := had 8; omega) (by decide +kernel) (by omega) ⟨by dsimp only; omega, by dsimp only; omega⟩ dX1_init_14 (fun u6 hn' hf' => ?_)
  have hq7 : u6[8]? = some (ad 8, iN K (2 * n) (fun _ => 0)) := hn'
  have hq8 : u6[9]? = none := (hf' 9 (by omega)).trans (List.getElem?_eq_none (by omega))
  have hq9 := (hf' 1 (by omega)).trans hq3
  have hq10 := (hf' 7 (by omega)).trans hq2
  have fr11 := Fr.one hf'
  refine q_putF (ty := .array .int) (fs' := [.ref (ad 1), .ref (ad 8), .null, .null]) hc 7 1 i1 tyX1 tyX1_ok nmX1 hq10 rfl (by decide) f21 rfl rfl hin rfl (by decide +kernel) rfl rfl (Nat.le_of_ble_eq_true rfl) rfl dX1_init_16 (fun u12 hn' hf' => ?_)
  have hq13 : u12[7]? = some (ad 7, .inr (1, [.ref (ad 1), .ref (ad 8), .null, .null])) := hn'
  have hq14 := (hf' 1 (by omega)).trans hq9
  have hq15 := (hf' 8 (by omega)).trans hq7
  have hq16 := (hf' 9 (by omega)).trans hq8
  have fr17 := Fr.one hf'
  refine q_aload_n hc 0 dX1_init_19 rfl ?_
  refine q_aload_n hc 1 dX1_init_20 rfl ?_
  refine q_get hc 1 2 i0 hq14 rfl (by decide) f25 rfl rfl dX1_init_21 ?_
  have hl9 : u12.length = 9 := len_of hq15 hq16 (by omega)
  have ho9 : Lo D u12 s.heap.size _ := Lo.of hq15 (show s.heap.size + (0 + 1) = ad 8 + 1 by have e1 := had 8; omega)
  refine q_newIN (n := n) (b := ad 9) hc hl9 ho9 (by have e1 := had 9; omega) (by decide +kernel) (by omega) ⟨by dsimp only; omega, by dsimp only; omega⟩ dX1_init_24 (fun u18 hn' hf' => ?_)
  have hq19 : u18[9]? = some (ad 9, iN K n (fun _ => 0)) := hn'
  have hq20 : u18[10]? = none := (hf' 10 (by omega)).trans (List.getElem?_eq_none (by omega))
  have hq21 := (hf' 1 (by omega)).trans hq14
  have hq22 := (hf' 7 (by omega)).trans hq13
  have hq23 := (hf' 8 (by omega)).trans hq15
  have fr24 := Fr.one hf'
  refine q_putF (ty := .array .int) (fs' := [.ref (ad 1), .ref (ad 8), .ref (ad 9), .null]) hc 7 2 i1 tyX1 tyX1_ok nmX1 hq22 rfl (by decide) f28 rfl rfl hin rfl (by decide +kernel) rfl rfl (Nat.le_of_ble_eq_true rfl) rfl dX1_init_26 (fun u25 hn' hf' => ?_)
  have hq26 : u25[7]? = some (ad 7, .inr (1, [.ref (ad 1), .ref (ad 8), .ref (ad 9), .null])) := hn'
  have hq27 := (hf' 1 (by omega)).trans hq21
  have hq28 := (hf' 8 (by omega)).trans hq23
  have hq29 := (hf' 9 (by omega)).trans hq19
  have hq30 := (hf' 10 (by omega)).trans hq20
  have fr31 := Fr.one hf'
  refine q_aload_n hc 0 dX1_init_29 rfl ?_
  refine q_aload_n hc 1 dX1_init_30 rfl ?_
  refine q_get hc 1 2 i0 hq27 rfl (by decide) f25 rfl rfl dX1_init_31 ?_
  have hl9 : u25.length = 10 := len_of hq29 hq30 (by omega)
  have ho9 : Lo D u25 s.heap.size _ := Lo.of hq29 (show s.heap.size + (0 + 1 + 1) = ad 9 + 1 by have e1 := had 9; omega)
  refine q_newZ (n := n) (b := ad 10) hc hl9 ho9 (by have e1 := had 10; omega) (by decide +kernel) (by omega) ⟨by dsimp only; omega, by dsimp only; omega⟩ dX1_init_34 (fun u32 hn' hf' => ?_)
  have hq33 : u32[10]? = some (ad 10, zA K n (fun _ => false)) := hn'
  have hq34 : u32[11]? = none := (hf' 11 (by omega)).trans (List.getElem?_eq_none (by omega))
  have hq35 := (hf' 1 (by omega)).trans hq27
  have hq36 := (hf' 7 (by omega)).trans hq26
  have hq37 := (hf' 8 (by omega)).trans hq28
  have hq38 := (hf' 9 (by omega)).trans hq29
  have fr39 := Fr.one hf'
  refine q_putF (ty := .array .boolean) (fs' := [.ref (ad 1), .ref (ad 8), .ref (ad 9), .ref (ad 10)]) hc 7 3 i1 tyX1 tyX1_ok nmX1 hq36 rfl (by decide) f31 rfl rfl hin rfl (by decide +kernel) rfl rfl (Nat.le_of_ble_eq_true rfl) rfl dX1_init_36 (fun u40 hn' hf' => ?_)
  have hq41 : u40[7]? = some (ad 7, .inr (1, [.ref (ad 1), .ref (ad 8), .ref (ad 9), .ref (ad 10)])) := hn'
  have hq42 := (hf' 1 (by omega)).trans hq35
  have hq43 := (hf' 8 (by omega)).trans hq37
  have hq44 := (hf' 9 (by omega)).trans hq38
  have hq45 := (hf' 10 (by omega)).trans hq33
  have hq46 := (hf' 11 (by omega)).trans hq34
  have fr47 := Fr.one hf'
  exact q_vretN hc (⟨hq41, hq43, hq44, hq45, hq46, (((((((fr0.trans fr5 (fun _ _ => by omega)).trans fr11 (fun _ _ => by omega)).trans fr17 (fun _ _ => by omega)).trans fr24 (fun _ _ => by omega)).trans fr31 (fun _ _ => by omega)).trans fr39 (fun _ _ => by omega)).trans fr47 (fun _ _ => by omega))⟩) hr hlk ⟨by omega, by omega⟩ dX1_init_39

set_option maxRecDepth 100000 in
set_option maxHeartbeats 8000000 in
theorem c_X2_init (l : Launch) (D : va_G) (K : Nat → ClassId) (ws : va_W) (ad : Nat → Nat) (s0 : Nat) (had : ∀ k, ad k = s0 + k) (w h n : Nat) (h1 : ws[1]? = some (ad 1, gO ad w h n)) (h11 : ws[11]? = some (ad 11, .inr (2, [.null, .null]))) (hE : ws[12]? = none) (hn : n ≤ 64) : MNv l yX2_init wsX2_init ({ frames := 1, cells := 17, slots := 1040, locals := 20 }) D K ws [.ref (ad 11), .ref (ad 1)] (s0 + (12)) 17 1040 (fun u => (u[11]? = some (ad 11, tO ad)) ∧ (u[12]? = some (ad 12, rA K 16 (rF ad))) ∧ (∀ s, s < 16 → u[13 + s]? = some (ad (13 + s), iN K n ((fun _ _ => 0) s))) ∧ (u[29]? = none) ∧ (Fr (fun j => 11 ≤ j) ws u)) := by
  refine q_entNv RX2 [(0, .ref (ad 11)), (1, .ref (ad 1))] (by decide) rfl rfl (Nat.le_of_ble_eq_true rfl) rfl rfl ?_
  intro p e s m args below meth c hc hAO hin hsz hr hlk
  have i2 : ∀ w ∈ u_ws RX2 TX2 2, w ∈ wsX2_init := by decide +kernel
  have f9 := hc.1.2.2.2.2 (.fieldLink RX2 9 "GlobalRoutes$LeastTable" "grid" "LGlobalRoutes$Grid;") (by decide +kernel)
  have i0 : ∀ w ∈ u_ws RX0 TX0 9, w ∈ wsX2_init := by decide +kernel
  have f15 := hc.1.2.2.2.2 (.fieldLink RX2 15 "GlobalRoutes$Grid" "cells" "I") (by decide +kernel)
  have f23 := hc.1.2.2.2.2 (.fieldLink RX2 23 "GlobalRoutes$LeastTable" "rows" "[[I") (by decide +kernel)
  have fr0 : Fr (fun j => 11 ≤ j) ws ws := Fr.rfl
  refine q_aload_n hc 0 dX2_init_0 rfl ?_
  refine q_objInit hc (by decide +kernel) (by decide +kernel) (by decide +kernel) (by decide) (by simp) dX2_init_1 ?_
  refine q_aload_n hc 0 dX2_init_4 rfl ?_
  refine q_aload_n hc 1 dX2_init_5 rfl ?_
  refine q_putF (ty := .object "GlobalRoutes$Grid") (fs' := [.ref (ad 1), .null]) hc 11 0 i2 tyX2 tyX2_ok nmX2 h11 rfl (by decide) f9 rfl rfl hin rfl (by decide +kernel) rfl rfl (Nat.le_of_ble_eq_true rfl) rfl dX2_init_6 (fun u1 hn' hf' => ?_)
  have hq2 : u1[11]? = some (ad 11, .inr (2, [.ref (ad 1), .null])) := hn'
  have hq3 := (hf' 1 (by omega)).trans h1
  have hq4 := (hf' 12 (by omega)).trans hE
  have fr5 := Fr.one hf'
  refine q_aload_n hc 0 dX2_init_9 rfl ?_
  refine q_bipushN hc 16 dX2_init_10 (by decide +kernel) ?_
  refine q_aload_n hc 1 dX2_init_12 rfl ?_
  refine q_get hc 1 2 i0 hq3 rfl (by decide) f15 rfl rfl dX2_init_13 ?_
  have hl9 : u1.length = 12 := len_of hq2 hq4 (by omega)
  have ho9 : Lo D u1 s.heap.size _ := Lo.of hq2 (show s.heap.size + (0) = ad 11 + 1 by have e1 := had 11; omega)
  refine q_mna (n := n) (b := ad 12) hc hAO hl9 ho9 (by have e1 := had 12; omega) (fun i => ad (13 + i)) (fun j hj => by have e1 := had 12; have e2 := had (13 + j); show ad (13 + j) = _; omega) (by decide +kernel) (by decide +kernel) (by omega) ⟨by dsimp only; omega, by dsimp only; omega⟩ dX2_init_16 (fun u6 hn' hm' hf' => ?_)
  have hq7 : u6[12]? = some (ad 12, rA K 16 (rF ad)) := hn'
  have hq8 : ∀ s, s < 16 → u6[13 + s]? = some (ad (13 + s), iN K n ((fun _ _ => 0) s)) := fun s hs => by have h9 := hm' s hs; rw [show 12 + 1 + s = 13 + s by omega] at h9; exact h9
  have hq9 : u6[29]? = none := (hf' 29 (by omega)).trans (List.getElem?_eq_none (by omega))
  have hq10 := (hf' 1 (by omega)).trans hq3
  have hq11 := (hf' 11 (by omega)).trans hq2
  have fr12 : Fr (fun j => 12 ≤ j ∧ j < 12 + 17) _ _ := hf'
  refine q_putF (ty := .array (.array .int)) (fs' := [.ref (ad 1), .ref (ad 12)]) hc 11 1 i2 tyX2 tyX2_ok nmX2 hq11 rfl (by decide) f23 rfl rfl hin rfl (by decide +kernel) rfl rfl (Nat.le_of_ble_eq_true rfl) rfl dX2_init_20 (fun u13 hn' hf' => ?_)
  have hq14 : u13[11]? = some (ad 11, .inr (2, [.ref (ad 1), .ref (ad 12)])) := hn'
  have hq15 := (hf' 1 (by omega)).trans hq10
  have hq16 := (hf' 12 (by omega)).trans hq7
  have hq17 := (hf' 29 (by omega)).trans hq9
  have hq18 : ∀ s, s < 16 → u13[13 + s]? = some (ad (13 + s), iN K n ((fun _ _ => 0) s)) := fun s hs => (hf' (13 + s) (by omega)).trans (hq8 s hs)
  have fr19 := Fr.one hf'
  exact q_vretN hc (⟨hq14, hq16, hq18, hq17, (((fr0.trans fr5 (fun _ _ => by omega)).trans fr12 (fun _ _ => by omega)).trans fr19 (fun _ _ => by omega))⟩) hr hlk ⟨by omega, by omega⟩ dX2_init_23
