
set_option maxRecDepth 100000 in
set_option maxHeartbeats 4000000 in
theorem c_X0_connect (l : Launch) (D : va_G) (K : Nat → ClassId) (ws : va_W) (ad : Nat → Nat) (w h n : Nat) (q t b dr : Nat) (f5 f6 : Nat → Int) (h1 : ws[1]? = some (ad 1, gO ad w h n)) (h5 : ws[5]? = some (ad 5, iA K (4 * n) f5)) (h6 : ws[6]? = some (ad 6, iA K (4 * n) f6)) (hn : n ≤ 64) (hq : q < n) (ht : t < n) (hdr : dr ≤ 3) (hb : b < 2 * n) : MMv l yX0_connect wsX0_connect ({ frames := 0, cells := 0, slots := 0, locals := 0 }) D K ws [.ref (ad 1), .int (iZ ((q : Nat) : Int)), .int (iZ ((t : Nat) : Int)), .int (iZ ((b : Nat) : Int)), .int (iZ ((dr : Nat) : Int))] (fun u => (u[5]? = some (ad 5, iA K (4 * n) (va_up (va_up f5 (4 * q + dr) ((t : Nat) : Int)) (4 * t + (3 - dr)) ((q : Nat) : Int)))) ∧ (u[6]? = some (ad 6, iA K (4 * n) (va_up (va_up f6 (4 * q + dr) ((b : Nat) : Int)) (4 * t + (3 - dr)) ((b : Nat) : Int)))) ∧ (Fr (fun j => j = 5 ∨ j = 6) ws u)) := by
  refine q_entMv RX0 [(0, .ref (ad 1)), (1, .int (iZ ((q : Nat) : Int))), (2, .int (iZ ((t : Nat) : Int))), (3, .int (iZ ((b : Nat) : Int))), (4, .int (iZ ((dr : Nat) : Int)))] (by decide) rfl rfl (Nat.le_of_ble_eq_true rfl) rfl ?_
  intro p e s m args below meth c hc hr hlk
  have i0 : ∀ w ∈ u_ws RX0 TX0 9, w ∈ wsX0_connect := by decide +kernel
  have f34 := hc.1.2.2.2.2 (.fieldLink RX0 34 "GlobalRoutes$Grid" "neighbours" "[I") (by decide +kernel)
  have f37 := hc.1.2.2.2.2 (.fieldLink RX0 37 "GlobalRoutes$Grid" "bordersTo" "[I") (by decide +kernel)
  have fr0 : Fr (fun j => j = 5 ∨ j = 6) ws ws := Fr.rfl
  refine q_iconstN hc 3 dX0_connect_0 rfl ?_
  refine q_iload hc 4 dX0_connect_1 rfl ?_
  refine q_isubN hc dX0_connect_3 (by omega) ?_
  refine q_istore hc [(5, .int (iZ ((3 - dr : Nat) : Int))), (0, .ref (ad 1)), (1, .int (iZ ((q : Nat) : Int))), (2, .int (iZ ((t : Nat) : Int))), (3, .int (iZ ((b : Nat) : Int))), (4, .int (iZ ((dr : Nat) : Int)))] dX0_connect_4 (by decide) rfl ?_
  refine q_aload_n hc 1 dX0_connect_6 rfl ?_
  refine q_get hc 1 7 i0 h1 rfl (by decide) f34 rfl rfl dX0_connect_7 ?_
  refine q_iconstN hc 4 dX0_connect_10 rfl ?_
  refine q_iload_n hc 2 dX0_connect_11 rfl ?_
  refine q_imulN hc dX0_connect_12 ?_
  refine q_iload hc 5 dX0_connect_13 rfl ?_
  refine q_iaddN hc dX0_connect_15 ?_
  refine q_iload_n hc 3 dX0_connect_16 rfl ?_
  refine q_iast (j := 4 * q + dr) (x := ((t : Nat) : Int)) hc 5 h5 rfl (by omega) (by omega) dX0_connect_17 (fun u1 hn' hf' => ?_)
  have hq2 : u1[5]? = some (ad 5, iA K (4 * n) (va_up f5 (4 * q + dr) ((t : Nat) : Int))) := hn'
  have hq3 := (hf' 1 (by omega)).trans h1
  have hq4 := (hf' 6 (by omega)).trans h6
  have fr5 := Fr.one hf'
  refine q_aload_n hc 1 dX0_connect_18 rfl ?_
  refine q_get hc 1 8 i0 hq3 rfl (by decide) f37 rfl rfl dX0_connect_19 ?_
  refine q_iconstN hc 4 dX0_connect_22 rfl ?_
  refine q_iload_n hc 2 dX0_connect_23 rfl ?_
  refine q_imulN hc dX0_connect_24 ?_
  refine q_iload hc 5 dX0_connect_25 rfl ?_
  refine q_iaddN hc dX0_connect_27 ?_
  refine q_iload_n hc 4 dX0_connect_28 rfl ?_
  refine q_iast (j := 4 * q + dr) (x := ((b : Nat) : Int)) hc 6 hq4 rfl (by omega) (by omega) dX0_connect_29 (fun u6 hn' hf' => ?_)
  have hq7 : u6[6]? = some (ad 6, iA K (4 * n) (va_up f6 (4 * q + dr) ((b : Nat) : Int))) := hn'
  have hq8 := (hf' 1 (by omega)).trans hq3
  have hq9 := (hf' 5 (by omega)).trans hq2
  have fr10 := Fr.one hf'
  refine q_aload_n hc 1 dX0_connect_30 rfl ?_
  refine q_get hc 1 7 i0 hq8 rfl (by decide) f34 rfl rfl dX0_connect_31 ?_
  refine q_iconstN hc 4 dX0_connect_34 rfl ?_
  refine q_iload_n hc 3 dX0_connect_35 rfl ?_
  refine q_imulN hc dX0_connect_36 ?_
  refine q_iload hc 0 dX0_connect_37 rfl ?_
  refine q_iaddN hc dX0_connect_39 ?_
  refine q_iload_n hc 2 dX0_connect_40 rfl ?_
  refine q_iast (j := 4 * t + (3 - dr)) (x := ((q : Nat) : Int)) hc 5 hq9 rfl (by omega) (by omega) dX0_connect_41 (fun u11 hn' hf' => ?_)
  have hq12 : u11[5]? = some (ad 5, iA K (4 * n) (va_up (va_up f5 (4 * q + dr) ((t : Nat) : Int)) (4 * t + (3 - dr)) ((q : Nat) : Int))) := hn'
  have hq13 := (hf' 1 (by omega)).trans hq8
  have hq14 := (hf' 6 (by omega)).trans hq7
  have fr15 := Fr.one hf'
  refine q_aload_n hc 1 dX0_connect_42 rfl ?_
  refine q_get hc 1 8 i0 hq13 rfl (by decide) f37 rfl rfl dX0_connect_43 ?_
  refine q_iconstN hc 4 dX0_connect_46 rfl ?_
  refine q_iload_n hc 3 dX0_connect_47 rfl ?_
  refine q_imulN hc dX0_connect_48 ?_
  refine q_iload hc 0 dX0_connect_49 rfl ?_
  refine q_iaddN hc dX0_connect_51 ?_
  refine q_iload_n hc 4 dX0_connect_52 rfl ?_
  refine q_iast (j := 4 * t + (3 - dr)) (x := ((b : Nat) : Int)) hc 6 hq14 rfl (by omega) (by omega) dX0_connect_53 (fun u16 hn' hf' => ?_)
  have hq17 : u16[6]? = some (ad 6, iA K (4 * n) (va_up (va_up f6 (4 * q + dr) ((b : Nat) : Int)) (4 * t + (3 - dr)) ((b : Nat) : Int))) := hn'
  have hq18 := (hf' 1 (by omega)).trans hq13
  have hq19 := (hf' 5 (by omega)).trans hq12
  have fr20 := Fr.one hf'
  exact q_vretM hc (⟨hq19, hq17, ((((fr0.trans fr5 (fun _ _ => by omega)).trans fr10 (fun _ _ => by omega)).trans fr15 (fun _ _ => by omega)).trans fr20 (fun _ _ => by omega))⟩) hr hlk dX0_connect_54

set_option maxRecDepth 100000 in
set_option maxHeartbeats 8000000 in
theorem c_X0_init (l : Launch) (D : va_G) (K : Nat → ClassId) (ws : va_W) (ad : Nat → Nat) (s0 : Nat) (had : ∀ k, ad k = s0 + k) (w h n : Nat) (c0 : Nat) (h1 : ws[1]? = some (ad 1, .inr (0, [.int 0, .int 0, .int 0, .int 0, .null, .null, .null, .null, .null]))) (hE : ws[2]? = none) (hn : n ≤ 64) (hw2 : 2 ≤ w ∧ w ≤ 8 ∧ 2 ≤ h ∧ h ≤ 8) (hnw : n = w * h) (hc0 : c0 ≤ 20) : MNv l yX0_init wsX0_init ({ frames := 1, cells := 5, slots := 896, locals := 25 }) D K ws [.ref (ad 1), .int (iZ ((w : Nat) : Int)), .int (iZ ((h : Nat) : Int)), .int (iZ ((c0 : Nat) : Int))] (s0 + (2)) 5 896 (fun u => (u[1]? = some (ad 1, gO ad w h n)) ∧ (u[2]? = some (ad 2, iN K (2 * n) (fun _ => c0))) ∧ (u[3]? = some (ad 3, iN K (2 * n) (fun _ => 0))) ∧ (u[4]? = some (ad 4, iN K (2 * n) (fun _ => 0))) ∧ (u[5]? = some (ad 5, iA K (4 * n) (fun k => oZ (nbW w h k)))) ∧ (u[6]? = some (ad 6, iA K (4 * n) (fun k => oZ (btW w h k)))) ∧ (u[7]? = none) ∧ (Fr (fun j => 1 ≤ j) ws u)) := by
  refine q_entNv RX0 [(0, .ref (ad 1)), (1, .int (iZ ((w : Nat) : Int))), (2, .int (iZ ((h : Nat) : Int))), (3, .int (iZ ((c0 : Nat) : Int)))] (by decide) rfl rfl (Nat.le_of_ble_eq_true rfl) rfl rfl ?_
  intro p e s m args below meth c hc hAO hin hsz hr hlk
  have i0 : ∀ w ∈ u_ws RX0 TX0 9, w ∈ wsX0_init := by decide +kernel
  have f9 := hc.1.2.2.2.2 (.fieldLink RX0 9 "GlobalRoutes$Grid" "width" "I") (by decide +kernel)
  have f15 := hc.1.2.2.2.2 (.fieldLink RX0 15 "GlobalRoutes$Grid" "height" "I") (by decide +kernel)
  have f18 := hc.1.2.2.2.2 (.fieldLink RX0 18 "GlobalRoutes$Grid" "cells" "I") (by decide +kernel)
  have f21 := hc.1.2.2.2.2 (.fieldLink RX0 21 "GlobalRoutes$Grid" "borders" "I") (by decide +kernel)
  have f24 := hc.1.2.2.2.2 (.fieldLink RX0 24 "GlobalRoutes$Grid" "capacities" "[I") (by decide +kernel)
  have f28 := hc.1.2.2.2.2 (.fieldLink RX0 28 "GlobalRoutes$Grid" "uses" "[I") (by decide +kernel)
  have f31 := hc.1.2.2.2.2 (.fieldLink RX0 31 "GlobalRoutes$Grid" "histories" "[I") (by decide +kernel)
  have f34 := hc.1.2.2.2.2 (.fieldLink RX0 34 "GlobalRoutes$Grid" "neighbours" "[I") (by decide +kernel)
  have f37 := hc.1.2.2.2.2 (.fieldLink RX0 37 "GlobalRoutes$Grid" "bordersTo" "[I") (by decide +kernel)
  have fr0 : Fr (fun j => 1 ≤ j) ws ws := Fr.rfl
  have hw1 : 2 ≤ w ∧ w ≤ 8 := by omega
  refine q_aload_n hc 0 dX0_init_0 rfl ?_
  refine q_objInit hc (by decide +kernel) (by decide +kernel) (by decide +kernel) (by decide) (by simp) dX0_init_1 ?_
  refine q_aload_n hc 0 dX0_init_4 rfl ?_
  refine q_iload_n hc 1 dX0_init_5 rfl ?_
  refine q_putF (ty := .int) (fs' := [.int (iZ ((w : Nat) : Int)), .int 0, .int 0, .int 0, .null, .null, .null, .null, .null]) hc 1 0 i0 tyX0 tyX0_ok nmX0 h1 rfl (by decide) f9 rfl rfl hin rfl (by decide +kernel) rfl rfl (Nat.le_of_ble_eq_true rfl) rfl dX0_init_6 (fun u1 hn' hf' => ?_)
  have hq2 : u1[1]? = some (ad 1, .inr (0, [.int (iZ ((w : Nat) : Int)), .int 0, .int 0, .int 0, .null, .null, .null, .null, .null])) := hn'
  have hq3 := (hf' 2 (by omega)).trans hE
  have fr4 := Fr.one hf'
  refine q_aload_n hc 0 dX0_init_9 rfl ?_
  refine q_iload_n hc 2 dX0_init_10 rfl ?_
  refine q_putF (ty := .int) (fs' := [.int (iZ ((w : Nat) : Int)), .int (iZ ((h : Nat) : Int)), .int 0, .int 0, .null, .null, .null, .null, .null]) hc 1 1 i0 tyX0 tyX0_ok nmX0 hq2 rfl (by decide) f15 rfl rfl hin rfl (by decide +kernel) rfl rfl (Nat.le_of_ble_eq_true rfl) rfl dX0_init_11 (fun u5 hn' hf' => ?_)
  have hq6 : u5[1]? = some (ad 1, .inr (0, [.int (iZ ((w : Nat) : Int)), .int (iZ ((h : Nat) : Int)), .int 0, .int 0, .null, .null, .null, .null, .null])) := hn'
  have hq7 := (hf' 2 (by omega)).trans hq3
  have fr8 := Fr.one hf'
  refine q_aload_n hc 0 dX0_init_14 rfl ?_
  refine q_iload_n hc 1 dX0_init_15 rfl ?_
  refine q_iload_n hc 2 dX0_init_16 rfl ?_
  refine q_imulN hc dX0_init_17 ?_
  refine V.topi (show _ = ((n : Nat) : Int) from congrArg (fun a : Nat => (a : Int)) hnw.symm) ?_
  refine q_putF (ty := .int) (fs' := [.int (iZ ((w : Nat) : Int)), .int (iZ ((h : Nat) : Int)), .int (iZ ((n : Nat) : Int)), .int 0, .null, .null, .null, .null, .null]) hc 1 2 i0 tyX0 tyX0_ok nmX0 hq6 rfl (by decide) f18 rfl rfl hin rfl (by decide +kernel) rfl rfl (Nat.le_of_ble_eq_true rfl) rfl dX0_init_18 (fun u9 hn' hf' => ?_)
  have hq10 : u9[1]? = some (ad 1, .inr (0, [.int (iZ ((w : Nat) : Int)), .int (iZ ((h : Nat) : Int)), .int (iZ ((n : Nat) : Int)), .int 0, .null, .null, .null, .null, .null])) := hn'
  have hq11 := (hf' 2 (by omega)).trans hq7
  have fr12 := Fr.one hf'
  refine q_aload_n hc 0 dX0_init_21 rfl ?_
  refine q_iconstN hc 2 dX0_init_22 rfl ?_
  refine q_aload_n hc 0 dX0_init_23 rfl ?_
  refine q_get hc 1 2 i0 hq10 rfl (by decide) f18 rfl rfl dX0_init_24 ?_
  refine q_imulN hc dX0_init_27 ?_
  refine q_putF (ty := .int) (fs' := [.int (iZ ((w : Nat) : Int)), .int (iZ ((h : Nat) : Int)), .int (iZ ((n : Nat) : Int)), .int (iZ ((2 * n : Nat) : Int)), .null, .null, .null, .null, .null]) hc 1 3 i0 tyX0 tyX0_ok nmX0 hq10 rfl (by decide) f21 rfl rfl hin rfl (by decide +kernel) rfl rfl (Nat.le_of_ble_eq_true rfl) rfl dX0_init_28 (fun u13 hn' hf' => ?_)
  have hq14 : u13[1]? = some (ad 1, .inr (0, [.int (iZ ((w : Nat) : Int)), .int (iZ ((h : Nat) : Int)), .int (iZ ((n : Nat) : Int)), .int (iZ ((2 * n : Nat) : Int)), .null, .null, .null, .null, .null])) := hn'
  have hq15 := (hf' 2 (by omega)).trans hq11
  have fr16 := Fr.one hf'
  refine q_aload_n hc 0 dX0_init_31 rfl ?_
  refine q_aload_n hc 0 dX0_init_32 rfl ?_
  refine q_get hc 1 3 i0 hq14 rfl (by decide) f21 rfl rfl dX0_init_33 ?_
  have hl9 : u13.length = 2 := len_of hq14 hq15 (by omega)
  have ho9 : Lo D u13 s.heap.size _ := Lo.of hq14 (show s.heap.size + (0) = ad 1 + 1 by have e1 := had 1; omega)
  refine q_newI (n := 2 * n) (b := ad 2) hc hl9 ho9 (by have e1 := had 2; omega) (by decide +kernel) (by omega) ⟨by dsimp only; omega, by dsimp only; omega⟩ dX0_init_36 (fun u17 hn' hf' => ?_)
  have hq18 : u17[2]? = some (ad 2, iA K (2 * n) (fun _ => 0)) := hn'
  have hq19 : u17[3]? = none := (hf' 3 (by omega)).trans (List.getElem?_eq_none (by omega))
  have hq20 := (hf' 1 (by omega)).trans hq14
  have fr21 := Fr.one hf'
  refine q_putF (ty := .array .int) (fs' := [.int (iZ ((w : Nat) : Int)), .int (iZ ((h : Nat) : Int)), .int (iZ ((n : Nat) : Int)), .int (iZ ((2 * n : Nat) : Int)), .ref (ad 2), .null, .null, .null, .null]) hc 1 4 i0 tyX0 tyX0_ok nmX0 hq20 rfl (by decide) f24 rfl rfl hin rfl (by decide +kernel) rfl rfl (Nat.le_of_ble_eq_true rfl) rfl dX0_init_38 (fun u22 hn' hf' => ?_)
  have hq23 : u22[1]? = some (ad 1, .inr (0, [.int (iZ ((w : Nat) : Int)), .int (iZ ((h : Nat) : Int)), .int (iZ ((n : Nat) : Int)), .int (iZ ((2 * n : Nat) : Int)), .ref (ad 2), .null, .null, .null, .null])) := hn'
  have hq24 := (hf' 2 (by omega)).trans hq18
  have hq25 := (hf' 3 (by omega)).trans hq19
  have fr26 := Fr.one hf'
  refine q_aload_n hc 0 dX0_init_41 rfl ?_
  refine q_aload_n hc 0 dX0_init_42 rfl ?_
  refine q_get hc 1 3 i0 hq23 rfl (by decide) f21 rfl rfl dX0_init_43 ?_
  have hl9 : u22.length = 3 := len_of hq24 hq25 (by omega)
  have ho9 : Lo D u22 s.heap.size _ := Lo.of hq24 (show s.heap.size + (0 + 1) = ad 2 + 1 by have e1 := had 2; omega)
  refine q_newIN (n := 2 * n) (b := ad 3) hc hl9 ho9 (by have e1 := had 3; omega) (by decide +kernel) (by omega) ⟨by dsimp only; omega, by dsimp only; omega⟩ dX0_init_46 (fun u27 hn' hf' => ?_)
  have hq28 : u27[3]? = some (ad 3, iN K (2 * n) (fun _ => 0)) := hn'
  have hq29 : u27[4]? = none := (hf' 4 (by omega)).trans (List.getElem?_eq_none (by omega))
  have hq30 := (hf' 1 (by omega)).trans hq23
  have hq31 := (hf' 2 (by omega)).trans hq24
  have fr32 := Fr.one hf'
  refine q_putF (ty := .array .int) (fs' := [.int (iZ ((w : Nat) : Int)), .int (iZ ((h : Nat) : Int)), .int (iZ ((n : Nat) : Int)), .int (iZ ((2 * n : Nat) : Int)), .ref (ad 2), .ref (ad 3), .null, .null, .null]) hc 1 5 i0 tyX0 tyX0_ok nmX0 hq30 rfl (by decide) f28 rfl rfl hin rfl (by decide +kernel) rfl rfl (Nat.le_of_ble_eq_true rfl) rfl dX0_init_48 (fun u33 hn' hf' => ?_)
  have hq34 : u33[1]? = some (ad 1, .inr (0, [.int (iZ ((w : Nat) : Int)), .int (iZ ((h : Nat) : Int)), .int (iZ ((n : Nat) : Int)), .int (iZ ((2 * n : Nat) : Int)), .ref (ad 2), .ref (ad 3), .null, .null, .null])) := hn'
  have hq35 := (hf' 2 (by omega)).trans hq31
  have hq36 := (hf' 3 (by omega)).trans hq28
  have hq37 := (hf' 4 (by omega)).trans hq29
  have fr38 := Fr.one hf'
  refine q_aload_n hc 0 dX0_init_51 rfl ?_
  refine q_aload_n hc 0 dX0_init_52 rfl ?_
  refine q_get hc 1 3 i0 hq34 rfl (by decide) f21 rfl rfl dX0_init_53 ?_
  have hl9 : u33.length = 4 := len_of hq36 hq37 (by omega)
  have ho9 : Lo D u33 s.heap.size _ := Lo.of hq36 (show s.heap.size + (0 + 1 + 1) = ad 3 + 1 by have e1 := had 3; omega)
  refine q_newIN (n := 2 * n) (b := ad 4) hc hl9 ho9 (by have e1 := had 4; omega) (by decide +kernel) (by omega) ⟨by dsimp only; omega, by dsimp only; omega⟩ dX0_init_56 (fun u39 hn' hf' => ?_)
  have hq40 : u39[4]? = some (ad 4, iN K (2 * n) (fun _ => 0)) := hn'
  have hq41 : u39[5]? = none := (hf' 5 (by omega)).trans (List.getElem?_eq_none (by omega))
  have hq42 := (hf' 1 (by omega)).trans hq34
  have hq43 := (hf' 2 (by omega)).trans hq35
  have hq44 := (hf' 3 (by omega)).trans hq36
  have fr45 := Fr.one hf'
  refine q_putF (ty := .array .int) (fs' := [.int (iZ ((w : Nat) : Int)), .int (iZ ((h : Nat) : Int)), .int (iZ ((n : Nat) : Int)), .int (iZ ((2 * n : Nat) : Int)), .ref (ad 2), .ref (ad 3), .ref (ad 4), .null, .null]) hc 1 6 i0 tyX0 tyX0_ok nmX0 hq42 rfl (by decide) f31 rfl rfl hin rfl (by decide +kernel) rfl rfl (Nat.le_of_ble_eq_true rfl) rfl dX0_init_58 (fun u46 hn' hf' => ?_)
  have hq47 : u46[1]? = some (ad 1, .inr (0, [.int (iZ ((w : Nat) : Int)), .int (iZ ((h : Nat) : Int)), .int (iZ ((n : Nat) : Int)), .int (iZ ((2 * n : Nat) : Int)), .ref (ad 2), .ref (ad 3), .ref (ad 4), .null, .null])) := hn'
  have hq48 := (hf' 2 (by omega)).trans hq43
  have hq49 := (hf' 3 (by omega)).trans hq44
  have hq50 := (hf' 4 (by omega)).trans hq40
  have hq51 := (hf' 5 (by omega)).trans hq41
  have fr52 := Fr.one hf'
  refine q_aload_n hc 0 dX0_init_61 rfl ?_
  refine q_iconstN hc 4 dX0_init_62 rfl ?_
  refine q_aload_n hc 0 dX0_init_63 rfl ?_
  refine q_get hc 1 2 i0 hq47 rfl (by decide) f18 rfl rfl dX0_init_64 ?_
  refine q_imulN hc dX0_init_67 ?_
  have hl9 : u46.length = 5 := len_of hq50 hq51 (by omega)
  have ho9 : Lo D u46 s.heap.size _ := Lo.of hq50 (show s.heap.size + (0 + 1 + 1 + 1) = ad 4 + 1 by have e1 := had 4; omega)
  refine q_newI (n := 4 * n) (b := ad 5) hc hl9 ho9 (by have e1 := had 5; omega) (by decide +kernel) (by omega) ⟨by dsimp only; omega, by dsimp only; omega⟩ dX0_init_68 (fun u53 hn' hf' => ?_)
  have hq54 : u53[5]? = some (ad 5, iA K (4 * n) (fun _ => 0)) := hn'
  have hq55 : u53[6]? = none := (hf' 6 (by omega)).trans (List.getElem?_eq_none (by omega))
  have hq56 := (hf' 1 (by omega)).trans hq47
  have hq57 := (hf' 2 (by omega)).trans hq48
  have hq58 := (hf' 3 (by omega)).trans hq49
  have hq59 := (hf' 4 (by omega)).trans hq50
  have fr60 := Fr.one hf'
  refine q_putF (ty := .array .int) (fs' := [.int (iZ ((w : Nat) : Int)), .int (iZ ((h : Nat) : Int)), .int (iZ ((n : Nat) : Int)), .int (iZ ((2 * n : Nat) : Int)), .ref (ad 2), .ref (ad 3), .ref (ad 4), .ref (ad 5), .null]) hc 1 7 i0 tyX0 tyX0_ok nmX0 hq56 rfl (by decide) f34 rfl rfl hin rfl (by decide +kernel) rfl rfl (Nat.le_of_ble_eq_true rfl) rfl dX0_init_70 (fun u61 hn' hf' => ?_)
  have hq62 : u61[1]? = some (ad 1, .inr (0, [.int (iZ ((w : Nat) : Int)), .int (iZ ((h : Nat) : Int)), .int (iZ ((n : Nat) : Int)), .int (iZ ((2 * n : Nat) : Int)), .ref (ad 2), .ref (ad 3), .ref (ad 4), .ref (ad 5), .null])) := hn'
  have hq63 := (hf' 2 (by omega)).trans hq57
  have hq64 := (hf' 3 (by omega)).trans hq58
  have hq65 := (hf' 4 (by omega)).trans hq59
  have hq66 := (hf' 5 (by omega)).trans hq54
  have hq67 := (hf' 6 (by omega)).trans hq55
  have fr68 := Fr.one hf'
  refine q_aload_n hc 0 dX0_init_73 rfl ?_
  refine q_iconstN hc 4 dX0_init_74 rfl ?_
  refine q_aload_n hc 0 dX0_init_75 rfl ?_
  refine q_get hc 1 2 i0 hq62 rfl (by decide) f18 rfl rfl dX0_init_76 ?_
  refine q_imulN hc dX0_init_79 ?_
  have hl9 : u61.length = 6 := len_of hq66 hq67 (by omega)
  have ho9 : Lo D u61 s.heap.size _ := Lo.of hq66 (show s.heap.size + (0 + 1 + 1 + 1 + 1) = ad 5 + 1 by have e1 := had 5; omega)
  refine q_newI (n := 4 * n) (b := ad 6) hc hl9 ho9 (by have e1 := had 6; omega) (by decide +kernel) (by omega) ⟨by dsimp only; omega, by dsimp only; omega⟩ dX0_init_80 (fun u69 hn' hf' => ?_)
  have hq70 : u69[6]? = some (ad 6, iA K (4 * n) (fun _ => 0)) := hn'
  have hq71 : u69[7]? = none := (hf' 7 (by omega)).trans (List.getElem?_eq_none (by omega))
  have hq72 := (hf' 1 (by omega)).trans hq62
  have hq73 := (hf' 2 (by omega)).trans hq63
  have hq74 := (hf' 3 (by omega)).trans hq64
  have hq75 := (hf' 4 (by omega)).trans hq65
  have hq76 := (hf' 5 (by omega)).trans hq66
  have fr77 := Fr.one hf'
  refine q_putF (ty := .array .int) (fs' := [.int (iZ ((w : Nat) : Int)), .int (iZ ((h : Nat) : Int)), .int (iZ ((n : Nat) : Int)), .int (iZ ((2 * n : Nat) : Int)), .ref (ad 2), .ref (ad 3), .ref (ad 4), .ref (ad 5), .ref (ad 6)]) hc 1 8 i0 tyX0 tyX0_ok nmX0 hq72 rfl (by decide) f37 rfl rfl hin rfl (by decide +kernel) rfl rfl (Nat.le_of_ble_eq_true rfl) rfl dX0_init_82 (fun u78 hn' hf' => ?_)
  have hq79 : u78[1]? = some (ad 1, .inr (0, [.int (iZ ((w : Nat) : Int)), .int (iZ ((h : Nat) : Int)), .int (iZ ((n : Nat) : Int)), .int (iZ ((2 * n : Nat) : Int)), .ref (ad 2), .ref (ad 3), .ref (ad 4), .ref (ad 5), .ref (ad 6)])) := hn'
  have hq80 := (hf' 2 (by omega)).trans hq73
  have hq81 := (hf' 3 (by omega)).trans hq74
  have hq82 := (hf' 4 (by omega)).trans hq75
  have hq83 := (hf' 5 (by omega)).trans hq76
  have hq84 := (hf' 6 (by omega)).trans hq70
  have hq85 := (hf' 7 (by omega)).trans hq71
  have fr86 := Fr.one hf'
  refine q_aload_n hc 0 dX0_init_85 rfl ?_
  refine q_get hc 1 4 i0 hq79 rfl (by decide) f24 rfl rfl dX0_init_86 ?_
  refine q_iload_n hc 3 dX0_init_89 rfl ?_
  refine q_callSMv (As := [.ref (ad 2), .int (iZ ((c0 : Nat) : Int))]) (rest := []) hc (c_J7_fill_53178 l D K u78 ad 2 (2 * n) ((c0 : Nat) : Int) (fun _ => 0) hq80 (by omega)) (va_cwS 2 hc.1.2.2.2.2 gX0_init_J7_fill_53178 rfl rfl rfl (by decide +kernel) ⟨Nat.le_of_ble_eq_true rfl, Nat.le_of_ble_eq_true rfl⟩) rfl rfl (by decide) dX0_init_90 ⟨by dsimp only; omega, by dsimp only; omega⟩ (fun u87 hp' => ?_)
  obtain ⟨hq88, fr89⟩ := hp'
  have hq90 := (fr89.at 1 (by omega)).trans hq79
  have hq91 := (fr89.at 3 (by omega)).trans hq81
  have hq92 := (fr89.at 4 (by omega)).trans hq82
  have hq93 := (fr89.at 5 (by omega)).trans hq83
  have hq94 := (fr89.at 6 (by omega)).trans hq84
  have hq95 := (fr89.at 7 (by omega)).trans hq85
  refine q_aload_n hc 0 dX0_init_93 rfl ?_
  refine q_get hc 1 7 i0 hq90 rfl (by decide) f34 rfl rfl dX0_init_94 ?_
  refine q_iconst hc dX0_init_97 ?_
  refine q_callSMv (As := [.ref (ad 5), .int (iZ (-1))]) (rest := []) hc (c_J7_fill_53178 l D K u87 ad 5 (4 * n) (-1) (fun _ => 0) hq93 (by omega)) (va_cwS 2 hc.1.2.2.2.2 gX0_init_J7_fill_53178 rfl rfl rfl (by decide +kernel) ⟨Nat.le_of_ble_eq_true rfl, Nat.le_of_ble_eq_true rfl⟩) rfl rfl (by decide) dX0_init_98 ⟨by dsimp only; omega, by dsimp only; omega⟩ (fun u96 hp' => ?_)
  obtain ⟨hq97, fr98⟩ := hp'
  have hq99 := (fr98.at 1 (by omega)).trans hq90
  have hq100 := (fr98.at 2 (by omega)).trans hq88
  have hq101 := (fr98.at 3 (by omega)).trans hq91
  have hq102 := (fr98.at 4 (by omega)).trans hq92
  have hq103 := (fr98.at 6 (by omega)).trans hq94
  have hq104 := (fr98.at 7 (by omega)).trans hq95
  refine q_aload_n hc 0 dX0_init_101 rfl ?_
  refine q_get hc 1 8 i0 hq99 rfl (by decide) f37 rfl rfl dX0_init_102 ?_
  refine q_iconst hc dX0_init_105 ?_
  refine q_callSMv (As := [.ref (ad 6), .int (iZ (-1))]) (rest := []) hc (c_J7_fill_53178 l D K u96 ad 6 (4 * n) (-1) (fun _ => 0) hq103 (by omega)) (va_cwS 2 hc.1.2.2.2.2 gX0_init_J7_fill_53178 rfl rfl rfl (by decide +kernel) ⟨Nat.le_of_ble_eq_true rfl, Nat.le_of_ble_eq_true rfl⟩) rfl rfl (by decide) dX0_init_106 ⟨by dsimp only; omega, by dsimp only; omega⟩ (fun u105 hp' => ?_)
  obtain ⟨hq106, fr107⟩ := hp'
  have hq108 := (fr107.at 1 (by omega)).trans hq99
  have hq109 := (fr107.at 2 (by omega)).trans hq100
  have hq110 := (fr107.at 3 (by omega)).trans hq101
  have hq111 := (fr107.at 4 (by omega)).trans hq102
  have hq112 := (fr107.at 5 (by omega)).trans hq97
  have hq113 := (fr107.at 7 (by omega)).trans hq104
  have hq114 : u105[2]? = some (ad 2, iN K (2 * n) (fun _ => c0)) := hq109
  refine q_iconstN hc 0 dX0_init_109 rfl ?_
  refine q_istore hc [(4, .int (iZ ((0 : Nat) : Int))), (0, .ref (ad 1)), (1, .int (iZ ((w : Nat) : Int))), (2, .int (iZ ((h : Nat) : Int))), (3, .int (iZ ((c0 : Nat) : Int)))] dX0_init_110 (by decide) rfl ?_
  refine V.sub [1, 2, 3, 0] rfl ?_
  refine V.loop (α := Nat × (Nat → Int) × (Nat → Int)) (fun x => n - x.1) (fun x u => (x.1 ≤ n) ∧ (InP (pS w x.1) (4 * (w * h)) (nbW w h) x.2.1) ∧ (InP (pS w x.1) (4 * (w * h)) (btW w h) x.2.2) ∧ (u[5]? = some (ad 5, iA K (4 * n) x.2.1)) ∧ (u[6]? = some (ad 6, iA K (4 * n) x.2.2)) ∧ (Fr (fun j => j = 5 ∨ j = 6) u105 u)) (fun x => [(0, .ref (ad 1)), (1, .int (iZ ((w : Nat) : Int))), (2, .int (iZ ((h : Nat) : Int))), (4, .int (iZ ((x.1 : Nat) : Int)))]) (0, fun _ => -1, fun _ => -1) ⟨(Nat.zero_le _), (pS_0 (Or.inl rfl)), (pS_0 (Or.inr rfl)), (hq112), (hq106), (Fr.rfl)⟩ rfl ?_
  intro x ih112 u115 hI
  obtain ⟨q, f5, f6⟩ := x
  try dsimp only at ih112 hI ⊢
  obtain ⟨hq0, hf5, hf6, hq116, hq117, fr118⟩ := hI
  have hq119 := (fr118.at 1 (by omega)).trans hq108
  have hq120 := (fr118.at 2 (by omega)).trans hq114
  have hq121 := (fr118.at 3 (by omega)).trans hq110
  have hq122 := (fr118.at 4 (by omega)).trans hq111
  have hq123 := (fr118.at 7 (by omega)).trans hq113
  refine q_iload hc 3 dX0_init_112 rfl ?_
  refine q_aload_n hc 0 dX0_init_114 rfl ?_
  refine q_get hc 1 2 i0 hq119 rfl (by decide) f18 rfl rfl dX0_init_115 ?_
  refine q_icmpN_ge hc 179 dX0_init_118 (by decide) (by omega) (by omega) (fun c124 => ?_) (fun c124 => ?_)
  · have hqn : q = n := by omega
    rw [hqn] at hf5 hf6
    refine q_norm_iA (g := fun k => oZ (nbW w h k)) hc 5 hq116 (pS_n hnw hf5) (fun u125 hn' hf' => ?_)
    have hq126 : u125[5]? = some (ad 5, iA K (4 * n) (fun k => oZ (nbW w h k))) := hn'
    have hq127 := (hf' 1 (by omega)).trans hq119
    have hq128 := (hf' 2 (by omega)).trans hq120
    have hq129 := (hf' 3 (by omega)).trans hq121
    have hq130 := (hf' 4 (by omega)).trans hq122
    have hq131 := (hf' 6 (by omega)).trans hq117
    have hq132 := (hf' 7 (by omega)).trans hq123
    have fr133 := Fr.one hf'
    refine q_norm_iA (g := fun k => oZ (btW w h k)) hc 6 hq131 (pS_n hnw hf6) (fun u134 hn' hf' => ?_)
    have hq135 : u134[6]? = some (ad 6, iA K (4 * n) (fun k => oZ (btW w h k))) := hn'
    have hq136 := (hf' 1 (by omega)).trans hq127
    have hq137 := (hf' 2 (by omega)).trans hq128
    have hq138 := (hf' 3 (by omega)).trans hq129
    have hq139 := (hf' 4 (by omega)).trans hq130
    have hq140 := (hf' 5 (by omega)).trans hq126
    have hq141 := (hf' 7 (by omega)).trans hq132
    have fr142 := Fr.one hf'
    exact q_vretN hc (⟨hq136, hq137, hq138, hq139, hq140, hq135, hq141, ((((((((((((((((((((fr0.trans fr4 (fun _ _ => by omega)).trans fr8 (fun _ _ => by omega)).trans fr12 (fun _ _ => by omega)).trans fr16 (fun _ _ => by omega)).trans fr21 (fun _ _ => by omega)).trans fr26 (fun _ _ => by omega)).trans fr32 (fun _ _ => by omega)).trans fr38 (fun _ _ => by omega)).trans fr45 (fun _ _ => by omega)).trans fr52 (fun _ _ => by omega)).trans fr60 (fun _ _ => by omega)).trans fr68 (fun _ _ => by omega)).trans fr77 (fun _ _ => by omega)).trans fr86 (fun _ _ => by omega)).trans fr89 (fun _ _ => by omega)).trans fr98 (fun _ _ => by omega)).trans fr107 (fun _ _ => by omega)).trans fr118 (fun _ _ => by omega)).trans fr133 (fun _ _ => by omega)).trans fr142 (fun _ _ => by omega))⟩) hr hlk ⟨by omega, by omega⟩ dX0_init_179
  · have hq9 : q < w * h := (by omega); have hmw := Nat.mod_lt q (show w > 0 by omega); have hdw := Nat.div_le_self q w
    refine q_iload hc 3 dX0_init_121 rfl ?_
    refine q_iload_n hc 1 dX0_init_123 rfl ?_
    refine q_iremN hc dX0_init_124 (by omega) (by omega) ?_
    refine q_iload_n hc 1 dX0_init_125 rfl ?_
    refine q_iconstN hc 1 dX0_init_126 rfl ?_
    refine q_isubN hc dX0_init_127 (by omega) ?_
    refine q_icmpN_ge hc 146 dX0_init_128 (by decide) (by omega) (by omega) (fun c143 => ?_) (fun c143 => ?_)
    · have n9 : ¬ q % w + 1 < w := by have := c143; omega
      have hA5 := nbT_no hw1 hq9 n9 hf5
      have hA6 := btT_no hw1 hq9 n9 hf6
      refine q_iload hc 3 dX0_init_146 rfl ?_
      refine q_iload_n hc 1 dX0_init_148 rfl ?_
      refine q_idivN hc dX0_init_149 (by omega) (by omega) ?_
      refine q_iload_n hc 2 dX0_init_150 rfl ?_
      refine q_iconstN hc 1 dX0_init_151 rfl ?_
      refine q_isubN hc dX0_init_152 (by omega) ?_
      refine q_icmpN_ge hc 173 dX0_init_153 (by decide) (by omega) (by omega) (fun c144 => ?_) (fun c144 => ?_)
      · refine q_iincN (q := 3) hc 1 [(4, .int (iZ ((q + 1 : Nat) : Int))), (0, .ref (ad 1)), (1, .int (iZ ((w : Nat) : Int))), (2, .int (iZ ((h : Nat) : Int)))] dX0_init_173 rfl rfl (by decide) rfl ?_
        refine q_goto hc 112 dX0_init_176 (by decide) ?_
        have m9 : ¬ q / w + 1 < h := by have := c144; omega
        refine V.sub [1, 2, 3, 0] rfl ?_
        exact ih112 (q + 1, f5, f6) _ (by omega) ⟨(by omega), (nbU_no hw1 hq9 m9 hA5), (btU_no hw1 hq9 m9 hA6), (hq116), (hq117), (fr118)⟩
      · refine q_aload_n hc 0 dX0_init_156 rfl ?_
        refine q_iload hc 3 dX0_init_157 rfl ?_
        refine q_iload hc 3 dX0_init_159 rfl ?_
        refine q_iload_n hc 1 dX0_init_161 rfl ?_
        refine q_iaddN hc dX0_init_162 ?_
        refine q_iconstN hc 2 dX0_init_163 rfl ?_
        refine q_iload hc 3 dX0_init_164 rfl ?_
        refine q_imulN hc dX0_init_166 ?_
        refine q_iconstN hc 1 dX0_init_167 rfl ?_
        refine q_iaddN hc dX0_init_168 ?_
        refine q_iconstN hc 3 dX0_init_169 rfl ?_
        have k8 := rowS hw1 (show q / w + 1 < h by have := c144; omega)
        refine q_callMv (As := [.int (iZ ((q : Nat) : Int)), .int (iZ ((q + w : Nat) : Int)), .int (iZ ((2 * q + 1 : Nat) : Int)), .int (iZ ((3 : Nat) : Int))]) (rest := []) hc (c_X0_connect l D K u115 ad w h n q (q + w) (2 * q + 1) 3 f5 f6 hq119 hq116 hq117 (by omega) (by omega) (by omega) (by omega) (by omega)) (cwV 4 hc.1.2.2.2.2 gX0_init_X0_connect rfl rfl rfl (by decide +kernel) ⟨Nat.le_of_ble_eq_true rfl, Nat.le_of_ble_eq_true rfl⟩) 1 hq119 rfl rfl rfl (by decide) dX0_init_170 ⟨by dsimp only; omega, by dsimp only; omega⟩ (fun u145 hp' => ?_)
        obtain ⟨hq147, hq148, fr149⟩ := hp'
        have hq150 := (fr149.at 1 (by omega)).trans hq119
        have hq151 := (fr149.at 2 (by omega)).trans hq120
        have hq152 := (fr149.at 3 (by omega)).trans hq121
        have hq153 := (fr149.at 4 (by omega)).trans hq122
        have hq154 := (fr149.at 7 (by omega)).trans hq123
        refine q_iincN (q := 3) hc 1 [(4, .int (iZ ((q + 1 : Nat) : Int))), (0, .ref (ad 1)), (1, .int (iZ ((w : Nat) : Int))), (2, .int (iZ ((h : Nat) : Int)))] dX0_init_173 rfl rfl (by decide) rfl ?_
        refine q_goto hc 112 dX0_init_176 (by decide) ?_
        have m9 : q / w + 1 < h := by have := c144; omega
        refine V.sub [1, 2, 3, 0] rfl ?_
        exact ih112 (q + 1, va_up (va_up f5 (4 * q + 3) (((q + w) : Nat) : Int)) (4 * (q + w) + (3 - 3)) ((q : Nat) : Int), va_up (va_up f6 (4 * q + 3) (((2 * q + 1) : Nat) : Int)) (4 * (q + w) + (3 - 3)) (((2 * q + 1) : Nat) : Int)) _ (by omega) ⟨(by omega), (nbU_yes hw1 hq9 m9 hA5), (btU_yes hw1 hq9 m9 hA6), (hq147), (hq148), ((fr118.trans fr149 (fun _ _ => by omega)))⟩
    · refine q_aload_n hc 0 dX0_init_131 rfl ?_
      refine q_iload hc 3 dX0_init_132 rfl ?_
      refine q_iload hc 3 dX0_init_134 rfl ?_
      refine q_iconstN hc 1 dX0_init_136 rfl ?_
      refine q_iaddN hc dX0_init_137 ?_
      refine q_iconstN hc 2 dX0_init_138 rfl ?_
      refine q_iload hc 3 dX0_init_139 rfl ?_
      refine q_imulN hc dX0_init_141 ?_
      refine q_iconstN hc 2 dX0_init_142 rfl ?_
      have k9 := colS hw1 hq9 (show q % w + 1 < w by have := c143; omega)
      refine q_callMv (As := [.int (iZ ((q : Nat) : Int)), .int (iZ ((q + 1 : Nat) : Int)), .int (iZ ((2 * q : Nat) : Int)), .int (iZ ((2 : Nat) : Int))]) (rest := []) hc (c_X0_connect l D K u115 ad w h n q (q + 1) (2 * q) 2 f5 f6 hq119 hq116 hq117 (by omega) (by omega) (by omega) (by omega) (by omega)) (cwV 4 hc.1.2.2.2.2 gX0_init_X0_connect rfl rfl rfl (by decide +kernel) ⟨Nat.le_of_ble_eq_true rfl, Nat.le_of_ble_eq_true rfl⟩) 1 hq119 rfl rfl rfl (by decide) dX0_init_143 ⟨by dsimp only; omega, by dsimp only; omega⟩ (fun u155 hp' => ?_)
      obtain ⟨hq157, hq158, fr159⟩ := hp'
      have hq160 := (fr159.at 1 (by omega)).trans hq119
      have hq161 := (fr159.at 2 (by omega)).trans hq120
      have hq162 := (fr159.at 3 (by omega)).trans hq121
      have hq163 := (fr159.at 4 (by omega)).trans hq122
      have hq164 := (fr159.at 7 (by omega)).trans hq123
      have n9 : q % w + 1 < w := by have := c143; omega
      have hA5 := nbT_yes hw1 hq9 n9 hf5
      have hA6 := btT_yes hw1 hq9 n9 hf6
      refine q_iload hc 3 dX0_init_146 rfl ?_
      refine q_iload_n hc 1 dX0_init_148 rfl ?_
      refine q_idivN hc dX0_init_149 (by omega) (by omega) ?_
      refine q_iload_n hc 2 dX0_init_150 rfl ?_
      refine q_iconstN hc 1 dX0_init_151 rfl ?_
      refine q_isubN hc dX0_init_152 (by omega) ?_
      refine q_icmpN_ge hc 173 dX0_init_153 (by decide) (by omega) (by omega) (fun c165 => ?_) (fun c165 => ?_)
      · refine q_iincN (q := 3) hc 1 [(4, .int (iZ ((q + 1 : Nat) : Int))), (0, .ref (ad 1)), (1, .int (iZ ((w : Nat) : Int))), (2, .int (iZ ((h : Nat) : Int)))] dX0_init_173 rfl rfl (by decide) rfl ?_
        refine q_goto hc 112 dX0_init_176 (by decide) ?_
        have m9 : ¬ q / w + 1 < h := by have := c165; omega
        refine V.sub [1, 2, 3, 0] rfl ?_
        exact ih112 (q + 1, va_up (va_up f5 (4 * q + 2) (((q + 1) : Nat) : Int)) (4 * (q + 1) + (3 - 2)) ((q : Nat) : Int), va_up (va_up f6 (4 * q + 2) (((2 * q) : Nat) : Int)) (4 * (q + 1) + (3 - 2)) (((2 * q) : Nat) : Int)) _ (by omega) ⟨(by omega), (nbU_no hw1 hq9 m9 hA5), (btU_no hw1 hq9 m9 hA6), (hq157), (hq158), ((fr118.trans fr159 (fun _ _ => by omega)))⟩
      · refine q_aload_n hc 0 dX0_init_156 rfl ?_
        refine q_iload hc 3 dX0_init_157 rfl ?_
        refine q_iload hc 3 dX0_init_159 rfl ?_
        refine q_iload_n hc 1 dX0_init_161 rfl ?_
        refine q_iaddN hc dX0_init_162 ?_
        refine q_iconstN hc 2 dX0_init_163 rfl ?_
        refine q_iload hc 3 dX0_init_164 rfl ?_
        refine q_imulN hc dX0_init_166 ?_
        refine q_iconstN hc 1 dX0_init_167 rfl ?_
        refine q_iaddN hc dX0_init_168 ?_
        refine q_iconstN hc 3 dX0_init_169 rfl ?_
        have k8 := rowS hw1 (show q / w + 1 < h by have := c165; omega)
        refine q_callMv (As := [.int (iZ ((q : Nat) : Int)), .int (iZ ((q + w : Nat) : Int)), .int (iZ ((2 * q + 1 : Nat) : Int)), .int (iZ ((3 : Nat) : Int))]) (rest := []) hc (c_X0_connect l D K u155 ad w h n q (q + w) (2 * q + 1) 3 (va_up (va_up f5 (4 * q + 2) (((q + 1) : Nat) : Int)) (4 * (q + 1) + (3 - 2)) ((q : Nat) : Int)) (va_up (va_up f6 (4 * q + 2) (((2 * q) : Nat) : Int)) (4 * (q + 1) + (3 - 2)) (((2 * q) : Nat) : Int)) hq160 hq157 hq158 (by omega) (by omega) (by omega) (by omega) (by omega)) (cwV 4 hc.1.2.2.2.2 gX0_init_X0_connect rfl rfl rfl (by decide +kernel) ⟨Nat.le_of_ble_eq_true rfl, Nat.le_of_ble_eq_true rfl⟩) 1 hq160 rfl rfl rfl (by decide) dX0_init_170 ⟨by dsimp only; omega, by dsimp only; omega⟩ (fun u166 hp' => ?_)
        obtain ⟨hq168, hq169, fr170⟩ := hp'
        have hq171 := (fr170.at 1 (by omega)).trans hq160
        have hq172 := (fr170.at 2 (by omega)).trans hq161
        have hq173 := (fr170.at 3 (by omega)).trans hq162
        have hq174 := (fr170.at 4 (by omega)).trans hq163
        have hq175 := (fr170.at 7 (by omega)).trans hq164
        refine q_iincN (q := 3) hc 1 [(4, .int (iZ ((q + 1 : Nat) : Int))), (0, .ref (ad 1)), (1, .int (iZ ((w : Nat) : Int))), (2, .int (iZ ((h : Nat) : Int)))] dX0_init_173 rfl rfl (by decide) rfl ?_
        refine q_goto hc 112 dX0_init_176 (by decide) ?_
        have m9 : q / w + 1 < h := by have := c165; omega
        refine V.sub [1, 2, 3, 0] rfl ?_
        exact ih112 (q + 1, va_up (va_up (va_up (va_up f5 (4 * q + 2) (((q + 1) : Nat) : Int)) (4 * (q + 1) + (3 - 2)) ((q : Nat) : Int)) (4 * q + 3) (((q + w) : Nat) : Int)) (4 * (q + w) + (3 - 3)) ((q : Nat) : Int), va_up (va_up (va_up (va_up f6 (4 * q + 2) (((2 * q) : Nat) : Int)) (4 * (q + 1) + (3 - 2)) (((2 * q) : Nat) : Int)) (4 * q + 3) (((2 * q + 1) : Nat) : Int)) (4 * (q + w) + (3 - 3)) (((2 * q + 1) : Nat) : Int)) _ (by omega) ⟨(by omega), (nbU_yes hw1 hq9 m9 hA5), (btU_yes hw1 hq9 m9 hA6), (hq168), (hq169), (((fr118.trans fr159 (fun _ _ => by omega)).trans fr170 (fun _ _ => by omega)))⟩
