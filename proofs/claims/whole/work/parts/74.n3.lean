
set_option maxRecDepth 100000 in
set_option maxHeartbeats 8000000 in
theorem c_X4_init (l : Launch) (D : va_G) (K : Nat → ClassId) (ws : va_W) (ad : Nat → Nat) (s0 : Nat) (had : ∀ k, ad k = s0 + k) (a1 a2 a3 : Int) (w h n : Nat) (c0 : Nat) (h0 : ws[0]? = some (ad 0, .inr (4, [.null, .null, .null, .null, .int 0, .int 0]))) (hE : ws[1]? = none) (ha1 : -2147483648 ≤ a1 ∧ a1 < 2147483648) (ha2 : -2147483648 ≤ a2 ∧ a2 < 2147483648) (ha3 : -2147483648 ≤ a3 ∧ a3 < 2147483648) (hn : n ≤ 64) (hw2 : 2 ≤ w ∧ w ≤ 8 ∧ 2 ≤ h ∧ h ≤ 8) (hnw : n = w * h) (hc0 : c0 ≤ 20) (hw9 : nrZ a1 2 8 = ((w : Nat) : Int)) (hh9 : nrZ a2 2 8 = ((h : Nat) : Int)) (hc9 : nrZ a3 0 20 = ((c0 : Nat) : Int)) : MNv l yX4_init wsX4_init ({ frames := 2, cells := 65, slots := 3863, locals := 49 }) D K ws [.ref (ad 0), .int (iZ a1), .int (iZ a2), .int (iZ a3)] (s0 + (1)) 65 3863 (fun u => (u[0]? = some (ad 0, xO ad 0 0)) ∧ (u[1]? = some (ad 1, gO ad w h n)) ∧ (u[2]? = some (ad 2, iN K (2 * n) (fun _ => c0))) ∧ (u[3]? = some (ad 3, iN K (2 * n) (fun _ => 0))) ∧ (u[4]? = some (ad 4, iN K (2 * n) (fun _ => 0))) ∧ (u[5]? = some (ad 5, iA K (4 * n) (fun k => oZ (nbW w h k)))) ∧ (u[6]? = some (ad 6, iA K (4 * n) (fun k => oZ (btW w h k)))) ∧ (u[7]? = some (ad 7, lO ad)) ∧ (u[8]? = some (ad 8, iN K (2 * n) (fun _ => 0))) ∧ (u[9]? = some (ad 9, iN K n (fun _ => 0))) ∧ (u[10]? = some (ad 10, zA K n (fun _ => false))) ∧ (u[11]? = some (ad 11, tO ad)) ∧ (u[12]? = some (ad 12, rA K 16 (rF ad))) ∧ (∀ s, s < 16 → u[13 + s]? = some (ad (13 + s), iN K n ((fun _ _ => 0) s))) ∧ (u[29]? = some (ad 29, nA K 12 (nF ad))) ∧ (∀ s, s < 12 → u[30 + 3 * s]? = some (ad (30 + 3 * s), nO ad s ((fun _ => 0) s) ((fun _ => -1) s))) ∧ (∀ s, s < 12 → u[31 + 3 * s]? = some (ad (31 + 3 * s), iN K 5 ((fun _ _ => 0) s))) ∧ (∀ s, s < 12 → u[32 + 3 * s]? = some (ad (32 + 3 * s), zA K (2 * n) ((fun _ _ => false) s))) ∧ (u[66]? = none) ∧ (Fr (fun j => 0 ≤ j) ws u)) := by
  refine q_entNv RX4 [(0, .ref (ad 0)), (1, .int (iZ a1)), (2, .int (iZ a2)), (3, .int (iZ a3))] (by decide) rfl rfl (Nat.le_of_ble_eq_true rfl) rfl rfl ?_
  intro p e s m args below meth c hc hAO hin hsz hr hlk
  have i0 : ∀ w ∈ u_ws RX0 TX0 9, w ∈ wsX4_init := by decide +kernel
  have i4 : ∀ w ∈ u_ws RX4 TX4 6, w ∈ wsX4_init := by decide +kernel
  have f18 := hc.1.2.2.2.2 (.fieldLink RX4 18 "GlobalRoutes" "grid" "LGlobalRoutes$Grid;") (by decide +kernel)
  have i1 : ∀ w ∈ u_ws RX1 TX1 4, w ∈ wsX4_init := by decide +kernel
  have f27 := hc.1.2.2.2.2 (.fieldLink RX4 27 "GlobalRoutes" "leader" "LGlobalRoutes$Leader;") (by decide +kernel)
  have i2 : ∀ w ∈ u_ws RX2 TX2 2, w ∈ wsX4_init := by decide +kernel
  have f34 := hc.1.2.2.2.2 (.fieldLink RX4 34 "GlobalRoutes" "leastTable" "LGlobalRoutes$LeastTable;") (by decide +kernel)
  have f40 := hc.1.2.2.2.2 (.fieldLink RX4 40 "GlobalRoutes" "nets" "[LGlobalRoutes$Net;") (by decide +kernel)
  have f51 := hc.1.2.2.2.2 (.fieldLink RX4 51 "GlobalRoutes" "netCount" "I") (by decide +kernel)
  have f54 := hc.1.2.2.2.2 (.fieldLink RX4 54 "GlobalRoutes" "roundCount" "I") (by decide +kernel)
  have i3 : ∀ w ∈ u_ws RX3 TX3 4, w ∈ wsX4_init := by decide +kernel
  have f44 := hc.1.2.2.2.2 (.fieldLink RX4 44 "GlobalRoutes$Grid" "borders" "I") (by decide +kernel)
  have fr0 : Fr (fun j => 0 ≤ j) ws ws := Fr.rfl
  refine q_aload_n hc 0 dX4_init_0 rfl ?_
  refine q_objInit hc (by decide +kernel) (by decide +kernel) (by decide +kernel) (by decide) (by simp) dX4_init_1 ?_
  refine q_aload_n hc 0 dX4_init_4 rfl ?_
  have hl9 : ws.length = 1 := len_of h0 hE (by omega)
  have ho9 : Lo D ws s.heap.size _ := Lo.of h0 (show s.heap.size + (0) = ad 0 + 1 by have e1 := had 0; omega)
  refine q_newO (ci := 0) (fs := [.int 0, .int 0, .int 0, .int 0, .null, .null, .null, .null, .null]) (b := ad 1) hc hl9 ho9 (by have e1 := had 1; omega) i0 tyX0 tyX0_ok (by decide +kernel) (by decide +kernel) (by decide +kernel) rfl (by decide +kernel) ⟨by dsimp only; omega, by dsimp only; omega⟩ dX4_init_5 (fun u1 hn' hf' => ?_)
  have hq2 : u1[1]? = some (ad 1, .inr (0, [.int 0, .int 0, .int 0, .int 0, .null, .null, .null, .null, .null])) := hn'
  have hq3 : u1[2]? = none := (hf' 2 (by omega)).trans (List.getElem?_eq_none (by omega))
  have hq4 := (hf' 0 (by omega)).trans h0
  have fr5 := Fr.one hf'
  refine q_dup hc dX4_init_8 rfl ?_
  refine q_iload_n hc 1 dX4_init_9 rfl ?_
  refine q_iconstN hc 2 dX4_init_10 rfl ?_
  refine q_bipushN hc 8 dX4_init_11 (by decide +kernel) ?_
  refine q_callPSi (As := [.int (iZ a1), .int (iZ ((2 : Nat) : Int)), .int (iZ ((8 : Nat) : Int))]) (rest := [.ref (ad 1), .ref (ad 1), .ref (ad 0)]) hc (c_X4_nearest l D K u1 ad a1 ((2 : Nat) : Int) ((8 : Nat) : Int)  (by omega) (by omega)) (cwS 3 hc.1.2.2.2.2 gX4_init_X4_nearest rfl rfl rfl (by decide +kernel) ⟨Nat.le_of_ble_eq_true rfl, Nat.le_of_ble_eq_true rfl⟩) rfl rfl (by simp [Value.category]) dX4_init_13 ⟨by dsimp only; omega, by dsimp only; omega⟩ ?_
  refine V.topi (show _ = ((w : Nat) : Int) from hw9) ?_
  refine q_iload_n hc 2 dX4_init_16 rfl ?_
  refine q_iconstN hc 2 dX4_init_17 rfl ?_
  refine q_bipushN hc 8 dX4_init_18 (by decide +kernel) ?_
  refine q_callPSi (As := [.int (iZ a2), .int (iZ ((2 : Nat) : Int)), .int (iZ ((8 : Nat) : Int))]) (rest := [.int (iZ ((w : Nat) : Int)), .ref (ad 1), .ref (ad 1), .ref (ad 0)]) hc (c_X4_nearest l D K u1 ad a2 ((2 : Nat) : Int) ((8 : Nat) : Int)  (by omega) (by omega)) (cwS 3 hc.1.2.2.2.2 gX4_init_X4_nearest rfl rfl rfl (by decide +kernel) ⟨Nat.le_of_ble_eq_true rfl, Nat.le_of_ble_eq_true rfl⟩) rfl rfl (by simp [Value.category]) dX4_init_20 ⟨by dsimp only; omega, by dsimp only; omega⟩ ?_
  refine V.topi (show _ = ((h : Nat) : Int) from hh9) ?_
  refine q_iload_n hc 3 dX4_init_23 rfl ?_
  refine q_iconstN hc 0 dX4_init_24 rfl ?_
  refine q_bipushN hc 20 dX4_init_25 (by decide +kernel) ?_
  refine q_callPSi (As := [.int (iZ a3), .int (iZ ((0 : Nat) : Int)), .int (iZ ((20 : Nat) : Int))]) (rest := [.int (iZ ((h : Nat) : Int)), .int (iZ ((w : Nat) : Int)), .ref (ad 1), .ref (ad 1), .ref (ad 0)]) hc (c_X4_nearest l D K u1 ad a3 ((0 : Nat) : Int) ((20 : Nat) : Int)  (by omega) (by omega)) (cwS 3 hc.1.2.2.2.2 gX4_init_X4_nearest rfl rfl rfl (by decide +kernel) ⟨Nat.le_of_ble_eq_true rfl, Nat.le_of_ble_eq_true rfl⟩) rfl rfl (by simp [Value.category]) dX4_init_27 ⟨by dsimp only; omega, by dsimp only; omega⟩ ?_
  refine V.topi (show _ = ((c0 : Nat) : Int) from hc9) ?_
  have hl9 : u1.length = 2 := len_of hq2 hq3 (by omega)
  have ho9 : Lo D u1 s.heap.size _ := Lo.of hq2 (show s.heap.size + (0 + 1) = ad 1 + 1 by have e1 := had 1; omega)
  refine q_callN (As := [.int (iZ ((w : Nat) : Int)), .int (iZ ((h : Nat) : Int)), .int (iZ ((c0 : Nat) : Int))]) (rest := [.ref (ad 1), .ref (ad 0)]) hc hAO (c_X0_init l D K u1 ad s0 had w h n c0 hq2 hq3 hn hw2 hnw hc0) (cwI 3 hc.1.2.2.2.2 gX4_init_X0_init rfl rfl rfl (hc.1.2.2.2.2 _ (by decide +kernel)) (hc.1.2.2.2.2 _ (by decide +kernel)) (hc.1.2.2.2.2 _ (by decide +kernel)) rfl (by decide +kernel) ⟨Nat.le_of_ble_eq_true rfl, Nat.le_of_ble_eq_true rfl⟩) ho9 (by omega) rfl rfl (by simp [Value.category]) dX4_init_30 ⟨by dsimp only; omega, by dsimp only; omega⟩ (fun u9 hp' => ?_)
  obtain ⟨hq10, hq11, hq12, hq13, hq14, hq15, hq16, fr17⟩ := hp'
  have hq18 := (fr17.at 0 (by omega)).trans hq4
  refine q_putF (ty := .object "GlobalRoutes$Grid") (fs' := [.ref (ad 1), .null, .null, .null, .int 0, .int 0]) hc 0 0 i4 tyX4 tyX4_ok nmX4 hq18 rfl (by decide) f18 rfl rfl hin rfl (by decide +kernel) rfl rfl (Nat.le_of_ble_eq_true rfl) rfl dX4_init_33 (fun u19 hn' hf' => ?_)
  have hq20 : u19[0]? = some (ad 0, .inr (4, [.ref (ad 1), .null, .null, .null, .int 0, .int 0])) := hn'
  have hq21 := (hf' 1 (by omega)).trans hq10
  have hq22 := (hf' 2 (by omega)).trans hq11
  have hq23 := (hf' 3 (by omega)).trans hq12
  have hq24 := (hf' 4 (by omega)).trans hq13
  have hq25 := (hf' 5 (by omega)).trans hq14
  have hq26 := (hf' 6 (by omega)).trans hq15
  have hq27 := (hf' 7 (by omega)).trans hq16
  have fr28 := Fr.one hf'
  refine q_aload_n hc 0 dX4_init_36 rfl ?_
  have hl9 : u19.length = 7 := len_of hq26 hq27 (by omega)
  have ho9 : Lo D u19 s.heap.size _ := Lo.of hq26 (show s.heap.size + (0 + 1 + 5) = ad 6 + 1 by have e1 := had 6; omega)
  refine q_newO (ci := 1) (fs := [.null, .null, .null, .null]) (b := ad 7) hc hl9 ho9 (by have e1 := had 7; omega) i1 tyX1 tyX1_ok (by decide +kernel) (by decide +kernel) (by decide +kernel) rfl (by decide +kernel) ⟨by dsimp only; omega, by dsimp only; omega⟩ dX4_init_37 (fun u29 hn' hf' => ?_)
  have hq30 : u29[7]? = some (ad 7, .inr (1, [.null, .null, .null, .null])) := hn'
  have hq31 : u29[8]? = none := (hf' 8 (by omega)).trans (List.getElem?_eq_none (by omega))
  have hq32 := (hf' 0 (by omega)).trans hq20
  have hq33 := (hf' 1 (by omega)).trans hq21
  have hq34 := (hf' 2 (by omega)).trans hq22
  have hq35 := (hf' 3 (by omega)).trans hq23
  have hq36 := (hf' 4 (by omega)).trans hq24
  have hq37 := (hf' 5 (by omega)).trans hq25
  have hq38 := (hf' 6 (by omega)).trans hq26
  have fr39 := Fr.one hf'
  refine q_dup hc dX4_init_40 rfl ?_
  refine q_aload_n hc 0 dX4_init_41 rfl ?_
  refine q_get hc 0 0 i4 hq32 rfl (by decide) f18 rfl rfl dX4_init_42 ?_
  have hl9 : u29.length = 8 := len_of hq30 hq31 (by omega)
  have ho9 : Lo D u29 s.heap.size _ := Lo.of hq30 (show s.heap.size + (0 + 1 + 5 + 1) = ad 7 + 1 by have e1 := had 7; omega)
  refine q_callN (As := [.ref (ad 1)]) (rest := [.ref (ad 7), .ref (ad 0)]) hc hAO (c_X1_init l D K u29 ad s0 had w h n hq33 hq30 hq31 hn) (cwI 1 hc.1.2.2.2.2 gX4_init_X1_init rfl rfl rfl (hc.1.2.2.2.2 _ (by decide +kernel)) (hc.1.2.2.2.2 _ (by decide +kernel)) (hc.1.2.2.2.2 _ (by decide +kernel)) rfl (by decide +kernel) ⟨Nat.le_of_ble_eq_true rfl, Nat.le_of_ble_eq_true rfl⟩) ho9 (by omega) rfl rfl (by simp [Value.category]) dX4_init_45 ⟨by dsimp only; omega, by dsimp only; omega⟩ (fun u40 hp' => ?_)
  obtain ⟨hq41, hq42, hq43, hq44, hq45, fr46⟩ := hp'
  have hq47 := (fr46.at 0 (by omega)).trans hq32
  have hq48 := (fr46.at 1 (by omega)).trans hq33
  have hq49 := (fr46.at 2 (by omega)).trans hq34
  have hq50 := (fr46.at 3 (by omega)).trans hq35
  have hq51 := (fr46.at 4 (by omega)).trans hq36
  have hq52 := (fr46.at 5 (by omega)).trans hq37
  have hq53 := (fr46.at 6 (by omega)).trans hq38
  refine q_putF (ty := .object "GlobalRoutes$Leader") (fs' := [.ref (ad 1), .ref (ad 7), .null, .null, .int 0, .int 0]) hc 0 1 i4 tyX4 tyX4_ok nmX4 hq47 rfl (by decide) f27 rfl rfl hin rfl (by decide +kernel) rfl rfl (Nat.le_of_ble_eq_true rfl) rfl dX4_init_48 (fun u54 hn' hf' => ?_)
  have hq55 : u54[0]? = some (ad 0, .inr (4, [.ref (ad 1), .ref (ad 7), .null, .null, .int 0, .int 0])) := hn'
  have hq56 := (hf' 1 (by omega)).trans hq48
  have hq57 := (hf' 2 (by omega)).trans hq49
  have hq58 := (hf' 3 (by omega)).trans hq50
  have hq59 := (hf' 4 (by omega)).trans hq51
  have hq60 := (hf' 5 (by omega)).trans hq52
  have hq61 := (hf' 6 (by omega)).trans hq53
  have hq62 := (hf' 7 (by omega)).trans hq41
  have hq63 := (hf' 8 (by omega)).trans hq42
  have hq64 := (hf' 9 (by omega)).trans hq43
  have hq65 := (hf' 10 (by omega)).trans hq44
  have hq66 := (hf' 11 (by omega)).trans hq45
  have fr67 := Fr.one hf'
  refine q_aload_n hc 0 dX4_init_51 rfl ?_
  have hl9 : u54.length = 11 := len_of hq65 hq66 (by omega)
  have ho9 : Lo D u54 s.heap.size _ := Lo.of hq65 (show s.heap.size + (0 + 1 + 5 + 1 + 3) = ad 10 + 1 by have e1 := had 10; omega)
  refine q_newO (ci := 2) (fs := [.null, .null]) (b := ad 11) hc hl9 ho9 (by have e1 := had 11; omega) i2 tyX2 tyX2_ok (by decide +kernel) (by decide +kernel) (by decide +kernel) rfl (by decide +kernel) ⟨by dsimp only; omega, by dsimp only; omega⟩ dX4_init_52 (fun u68 hn' hf' => ?_)
  have hq69 : u68[11]? = some (ad 11, .inr (2, [.null, .null])) := hn'
  have hq70 : u68[12]? = none := (hf' 12 (by omega)).trans (List.getElem?_eq_none (by omega))
  have hq71 := (hf' 0 (by omega)).trans hq55
  have hq72 := (hf' 1 (by omega)).trans hq56
  have hq73 := (hf' 2 (by omega)).trans hq57
  have hq74 := (hf' 3 (by omega)).trans hq58
  have hq75 := (hf' 4 (by omega)).trans hq59
  have hq76 := (hf' 5 (by omega)).trans hq60
  have hq77 := (hf' 6 (by omega)).trans hq61
  have hq78 := (hf' 7 (by omega)).trans hq62
  have hq79 := (hf' 8 (by omega)).trans hq63
  have hq80 := (hf' 9 (by omega)).trans hq64
  have hq81 := (hf' 10 (by omega)).trans hq65
  have fr82 := Fr.one hf'
  refine q_dup hc dX4_init_55 rfl ?_
  refine q_aload_n hc 0 dX4_init_56 rfl ?_
  refine q_get hc 0 0 i4 hq71 rfl (by decide) f18 rfl rfl dX4_init_57 ?_
  have hl9 : u68.length = 12 := len_of hq69 hq70 (by omega)
  have ho9 : Lo D u68 s.heap.size _ := Lo.of hq69 (show s.heap.size + (0 + 1 + 5 + 1 + 3 + 1) = ad 11 + 1 by have e1 := had 11; omega)
  refine q_callN (As := [.ref (ad 1)]) (rest := [.ref (ad 11), .ref (ad 0)]) hc hAO (c_X2_init l D K u68 ad s0 had w h n hq72 hq69 hq70 hn) (cwI 1 hc.1.2.2.2.2 gX4_init_X2_init rfl rfl rfl (hc.1.2.2.2.2 _ (by decide +kernel)) (hc.1.2.2.2.2 _ (by decide +kernel)) (hc.1.2.2.2.2 _ (by decide +kernel)) rfl (by decide +kernel) ⟨Nat.le_of_ble_eq_true rfl, Nat.le_of_ble_eq_true rfl⟩) ho9 (by omega) rfl rfl (by simp [Value.category]) dX4_init_60 ⟨by dsimp only; omega, by dsimp only; omega⟩ (fun u83 hp' => ?_)
  obtain ⟨hq84, hq85, hq86, hq87, fr88⟩ := hp'
  have hq89 := (fr88.at 0 (by omega)).trans hq71
  have hq90 := (fr88.at 1 (by omega)).trans hq72
  have hq91 := (fr88.at 2 (by omega)).trans hq73
  have hq92 := (fr88.at 3 (by omega)).trans hq74
  have hq93 := (fr88.at 4 (by omega)).trans hq75
  have hq94 := (fr88.at 5 (by omega)).trans hq76
  have hq95 := (fr88.at 6 (by omega)).trans hq77
  have hq96 := (fr88.at 7 (by omega)).trans hq78
  have hq97 := (fr88.at 8 (by omega)).trans hq79
  have hq98 := (fr88.at 9 (by omega)).trans hq80
  have hq99 := (fr88.at 10 (by omega)).trans hq81
  have hq100 : u83[28]? = some (ad 28, iN K n ((fun _ _ => 0) 15)) := hq86 15 (by omega)
  refine q_putF (ty := .object "GlobalRoutes$LeastTable") (fs' := [.ref (ad 1), .ref (ad 7), .ref (ad 11), .null, .int 0, .int 0]) hc 0 2 i4 tyX4 tyX4_ok nmX4 hq89 rfl (by decide) f34 rfl rfl hin rfl (by decide +kernel) rfl rfl (Nat.le_of_ble_eq_true rfl) rfl dX4_init_63 (fun u101 hn' hf' => ?_)
  have hq102 : u101[0]? = some (ad 0, .inr (4, [.ref (ad 1), .ref (ad 7), .ref (ad 11), .null, .int 0, .int 0])) := hn'
  have hq103 := (hf' 1 (by omega)).trans hq90
  have hq104 := (hf' 2 (by omega)).trans hq91
  have hq105 := (hf' 3 (by omega)).trans hq92
  have hq106 := (hf' 4 (by omega)).trans hq93
  have hq107 := (hf' 5 (by omega)).trans hq94
  have hq108 := (hf' 6 (by omega)).trans hq95
  have hq109 := (hf' 7 (by omega)).trans hq96
  have hq110 := (hf' 8 (by omega)).trans hq97
  have hq111 := (hf' 9 (by omega)).trans hq98
  have hq112 := (hf' 10 (by omega)).trans hq99
  have hq113 := (hf' 11 (by omega)).trans hq84
  have hq114 := (hf' 12 (by omega)).trans hq85
  have hq115 := (hf' 28 (by omega)).trans hq100
  have hq116 := (hf' 29 (by omega)).trans hq87
  have hq117 : ∀ s, s < 16 → u101[13 + s]? = some (ad (13 + s), iN K n ((fun _ _ => 0) s)) := fun s hs => (hf' (13 + s) (by omega)).trans (hq86 s hs)
  have fr118 := Fr.one hf'
  refine q_aload_n hc 0 dX4_init_66 rfl ?_
  refine q_bipushN hc 12 dX4_init_67 (by decide +kernel) ?_
  have hl9 : u101.length = 29 := len_of hq115 hq116 (by omega)
  have ho9 : Lo D u101 s.heap.size _ := Lo.of hq115 (show s.heap.size + (0 + 1 + 5 + 1 + 3 + 1 + 17) = ad 28 + 1 by have e1 := had 28; omega)
  refine q_newA (n := 12) (b := ad 29) hc hAO hl9 ho9 (by have e1 := had 29; omega) (by decide +kernel) (by omega) ⟨by dsimp only; omega, by dsimp only; omega⟩ dX4_init_69 (fun u119 hn' hf' => ?_)
  have hq120 : u119[29]? = some (ad 29, nA K 12 (fun _ => none)) := hn'
  have hq121 : u119[30]? = none := (hf' 30 (by omega)).trans (List.getElem?_eq_none (by omega))
  have hq122 := (hf' 0 (by omega)).trans hq102
  have hq123 := (hf' 1 (by omega)).trans hq103
  have hq124 := (hf' 2 (by omega)).trans hq104
  have hq125 := (hf' 3 (by omega)).trans hq105
  have hq126 := (hf' 4 (by omega)).trans hq106
  have hq127 := (hf' 5 (by omega)).trans hq107
  have hq128 := (hf' 6 (by omega)).trans hq108
  have hq129 := (hf' 7 (by omega)).trans hq109
  have hq130 := (hf' 8 (by omega)).trans hq110
  have hq131 := (hf' 9 (by omega)).trans hq111
  have hq132 := (hf' 10 (by omega)).trans hq112
  have hq133 := (hf' 11 (by omega)).trans hq113
  have hq134 := (hf' 12 (by omega)).trans hq114
  have hq135 := (hf' 28 (by omega)).trans hq115
  have hq136 : ∀ s, s < 16 → u119[13 + s]? = some (ad (13 + s), iN K n ((fun _ _ => 0) s)) := fun s hs => (hf' (13 + s) (by omega)).trans (hq117 s hs)
  have fr137 := Fr.one hf'
  refine q_putF (ty := .array (.object "GlobalRoutes$Net")) (fs' := [.ref (ad 1), .ref (ad 7), .ref (ad 11), .ref (ad 29), .int 0, .int 0]) hc 0 3 i4 tyX4 tyX4_ok nmX4 hq122 rfl (by decide) f40 rfl rfl hin rfl (by decide +kernel) rfl rfl (Nat.le_of_ble_eq_true rfl) rfl dX4_init_72 (fun u138 hn' hf' => ?_)
  have hq139 : u138[0]? = some (ad 0, .inr (4, [.ref (ad 1), .ref (ad 7), .ref (ad 11), .ref (ad 29), .int 0, .int 0])) := hn'
  have hq140 := (hf' 1 (by omega)).trans hq123
  have hq141 := (hf' 2 (by omega)).trans hq124
  have hq142 := (hf' 3 (by omega)).trans hq125
  have hq143 := (hf' 4 (by omega)).trans hq126
  have hq144 := (hf' 5 (by omega)).trans hq127
  have hq145 := (hf' 6 (by omega)).trans hq128
  have hq146 := (hf' 7 (by omega)).trans hq129
  have hq147 := (hf' 8 (by omega)).trans hq130
  have hq148 := (hf' 9 (by omega)).trans hq131
  have hq149 := (hf' 10 (by omega)).trans hq132
  have hq150 := (hf' 11 (by omega)).trans hq133
  have hq151 := (hf' 12 (by omega)).trans hq134
  have hq152 := (hf' 28 (by omega)).trans hq135
  have hq153 := (hf' 29 (by omega)).trans hq120
  have hq154 := (hf' 30 (by omega)).trans hq121
  have hq155 : ∀ s, s < 16 → u138[13 + s]? = some (ad (13 + s), iN K n ((fun _ _ => 0) s)) := fun s hs => (hf' (13 + s) (by omega)).trans (hq136 s hs)
  have fr156 := Fr.one hf'
  refine q_iconstN hc 0 dX4_init_75 rfl ?_
  refine q_istore hc [(4, .int (iZ ((0 : Nat) : Int))), (0, .ref (ad 0)), (1, .int (iZ a1)), (2, .int (iZ a2)), (3, .int (iZ a3))] dX4_init_76 (by decide) rfl ?_
  refine V.sub [1, 0] rfl ?_
  refine V.loopC (α := Nat × (Nat → Option Nat)) (fun x => 12 - x.1) (fun x => 29 + 3 * x.1) (fun x => 2219 + 137 * x.1) (fun x u => (x.1 ≤ 12) ∧ (∀ k, x.2 k = if k < x.1 then nF ad k else none) ∧ (u[29]? = some (ad 29, nA K 12 x.2)) ∧ (∀ s, s < x.1 → u[30 + 3 * s]? = some (ad (30 + 3 * s), nO ad s ((fun _ => 0) s) ((fun _ => -1) s))) ∧ (∀ s, s < x.1 → u[31 + 3 * s]? = some (ad (31 + 3 * s), iN K 5 ((fun _ _ => 0) s))) ∧ (∀ s, s < x.1 → u[32 + 3 * s]? = some (ad (32 + 3 * s), zA K (2 * n) ((fun _ _ => false) s))) ∧ (u[30 + 3 * x.1]? = none) ∧ (∃ e9, u[29 + 3 * x.1]? = some (ad (29 + 3 * x.1), e9)) ∧ (Fr (fun j => 29 ≤ j) u138 u)) (fun x => [(0, .ref (ad 0)), (4, .int (iZ ((x.1 : Nat) : Int)))]) (0, fun _ => none) rfl rfl ⟨Nat.zero_le _, fun k => rfl, hq153, fun s hs => absurd hs (Nat.not_lt_zero s), fun s hs => absurd hs (Nat.not_lt_zero s), fun s hs => absurd hs (Nat.not_lt_zero s), hq154, ⟨_, hq153⟩, Fr.rfl⟩ rfl ?_
  intro x ih78 u157 hI
  obtain ⟨i, f⟩ := x
  try dsimp only at ih78 hI ⊢
  obtain ⟨hi0, hf, q29, qN, qP, qO, qE, ⟨e9, qL⟩, fr158⟩ := hI
  have hq159 := (fr158.at 0 (by omega)).trans hq139
  have hq160 := (fr158.at 1 (by omega)).trans hq140
  have hq161 := (fr158.at 2 (by omega)).trans hq141
  have hq162 := (fr158.at 3 (by omega)).trans hq142
  have hq163 := (fr158.at 4 (by omega)).trans hq143
  have hq164 := (fr158.at 5 (by omega)).trans hq144
  have hq165 := (fr158.at 6 (by omega)).trans hq145
  have hq166 := (fr158.at 7 (by omega)).trans hq146
  have hq167 := (fr158.at 8 (by omega)).trans hq147
  have hq168 := (fr158.at 9 (by omega)).trans hq148
  have hq169 := (fr158.at 10 (by omega)).trans hq149
  have hq170 := (fr158.at 11 (by omega)).trans hq150
  have hq171 := (fr158.at 12 (by omega)).trans hq151
  have hq172 := (fr158.at 28 (by omega)).trans hq152
  have hq173 : ∀ s, s < 16 → u157[13 + s]? = some (ad (13 + s), iN K n ((fun _ _ => 0) s)) := fun s hs => (fr158.at (13 + s) (by omega)).trans (hq155 s hs)
  refine q_iload hc 1 dX4_init_78 rfl ?_
  refine q_bipushN hc 12 dX4_init_80 (by decide +kernel) ?_
  refine q_icmpN_ge hc 112 dX4_init_82 (by decide) (by omega) (by omega) (fun c174 => ?_) (fun c174 => ?_)
  · have e12 : i = 12 := by omega
    subst e12
    have hE9 : u157[66]? = none := qE
    refine V.sub [0] rfl ?_
    refine q_norm_nA (g := nF ad) hc 29 q29 (fun k hk => by rw [hf k, if_pos (by omega)]) (fun u175 hn' hf' => ?_)
    have hq176 : u175[29]? = some (ad 29, nA K 12 (nF ad)) := hn'
    have hq177 := (hf' 0 (by omega)).trans hq159
    have hq178 := (hf' 1 (by omega)).trans hq160
    have hq179 := (hf' 2 (by omega)).trans hq161
    have hq180 := (hf' 3 (by omega)).trans hq162
    have hq181 := (hf' 4 (by omega)).trans hq163
    have hq182 := (hf' 5 (by omega)).trans hq164
    have hq183 := (hf' 6 (by omega)).trans hq165
    have hq184 := (hf' 7 (by omega)).trans hq166
    have hq185 := (hf' 8 (by omega)).trans hq167
    have hq186 := (hf' 9 (by omega)).trans hq168
    have hq187 := (hf' 10 (by omega)).trans hq169
    have hq188 := (hf' 11 (by omega)).trans hq170
    have hq189 := (hf' 12 (by omega)).trans hq171
    have hq190 := (hf' 28 (by omega)).trans hq172
    have hq191 := (hf' 66 (by omega)).trans hE9
    have hq192 : ∀ s, s < 16 → u175[13 + s]? = some (ad (13 + s), iN K n ((fun _ _ => 0) s)) := fun s hs => (hf' (13 + s) (by omega)).trans (hq173 s hs)
    have hq193 : ∀ s, s < 12 → u175[30 + 3 * s]? = some (ad (30 + 3 * s), nO ad s ((fun _ => 0) s) ((fun _ => -1) s)) := fun s hs => (hf' (30 + 3 * s) (by omega)).trans (qN s hs)
    have hq194 : ∀ s, s < 12 → u175[31 + 3 * s]? = some (ad (31 + 3 * s), iN K 5 ((fun _ _ => 0) s)) := fun s hs => (hf' (31 + 3 * s) (by omega)).trans (qP s hs)
    have hq195 : ∀ s, s < 12 → u175[32 + 3 * s]? = some (ad (32 + 3 * s), zA K (2 * n) ((fun _ _ => false) s)) := fun s hs => (hf' (32 + 3 * s) (by omega)).trans (qO s hs)
    have fr196 := Fr.one hf'
    refine q_aload_n hc 0 dX4_init_112 rfl ?_
    refine q_iconstN hc 0 dX4_init_113 rfl ?_
    refine q_put (ty := .int) (fs' := [.ref (ad 1), .ref (ad 7), .ref (ad 11), .ref (ad 29), .int (iZ ((0 : Nat) : Int)), .int 0]) hc 0 4 i4 tyX4 tyX4_ok nmX4 hq177 rfl (by decide) f51 rfl rfl (by decide +kernel) rfl rfl (Nat.le_of_ble_eq_true rfl) rfl dX4_init_114 (fun u197 hn' hf' => ?_)
    have hq198 : u197[0]? = some (ad 0, .inr (4, [.ref (ad 1), .ref (ad 7), .ref (ad 11), .ref (ad 29), .int (iZ ((0 : Nat) : Int)), .int 0])) := hn'
    have hq199 := (hf' 1 (by omega)).trans hq178
    have hq200 := (hf' 2 (by omega)).trans hq179
    have hq201 := (hf' 3 (by omega)).trans hq180
    have hq202 := (hf' 4 (by omega)).trans hq181
    have hq203 := (hf' 5 (by omega)).trans hq182
    have hq204 := (hf' 6 (by omega)).trans hq183
    have hq205 := (hf' 7 (by omega)).trans hq184
    have hq206 := (hf' 8 (by omega)).trans hq185
    have hq207 := (hf' 9 (by omega)).trans hq186
    have hq208 := (hf' 10 (by omega)).trans hq187
    have hq209 := (hf' 11 (by omega)).trans hq188
    have hq210 := (hf' 12 (by omega)).trans hq189
    have hq211 := (hf' 28 (by omega)).trans hq190
    have hq212 := (hf' 29 (by omega)).trans hq176
    have hq213 := (hf' 66 (by omega)).trans hq191
    have hq214 : ∀ s, s < 16 → u197[13 + s]? = some (ad (13 + s), iN K n ((fun _ _ => 0) s)) := fun s hs => (hf' (13 + s) (by omega)).trans (hq192 s hs)
    have hq215 : ∀ s, s < 12 → u197[30 + 3 * s]? = some (ad (30 + 3 * s), nO ad s ((fun _ => 0) s) ((fun _ => -1) s)) := fun s hs => (hf' (30 + 3 * s) (by omega)).trans (hq193 s hs)
    have hq216 : ∀ s, s < 12 → u197[31 + 3 * s]? = some (ad (31 + 3 * s), iN K 5 ((fun _ _ => 0) s)) := fun s hs => (hf' (31 + 3 * s) (by omega)).trans (hq194 s hs)
    have hq217 : ∀ s, s < 12 → u197[32 + 3 * s]? = some (ad (32 + 3 * s), zA K (2 * n) ((fun _ _ => false) s)) := fun s hs => (hf' (32 + 3 * s) (by omega)).trans (hq195 s hs)
    have fr218 := Fr.one hf'
    refine q_aload_n hc 0 dX4_init_117 rfl ?_
    refine q_iconstN hc 0 dX4_init_118 rfl ?_
    refine q_put (ty := .int) (fs' := [.ref (ad 1), .ref (ad 7), .ref (ad 11), .ref (ad 29), .int (iZ ((0 : Nat) : Int)), .int (iZ ((0 : Nat) : Int))]) hc 0 5 i4 tyX4 tyX4_ok nmX4 hq198 rfl (by decide) f54 rfl rfl (by decide +kernel) rfl rfl (Nat.le_of_ble_eq_true rfl) rfl dX4_init_119 (fun u219 hn' hf' => ?_)
    have hq220 : u219[0]? = some (ad 0, .inr (4, [.ref (ad 1), .ref (ad 7), .ref (ad 11), .ref (ad 29), .int (iZ ((0 : Nat) : Int)), .int (iZ ((0 : Nat) : Int))])) := hn'
    have hq221 := (hf' 1 (by omega)).trans hq199
    have hq222 := (hf' 2 (by omega)).trans hq200
    have hq223 := (hf' 3 (by omega)).trans hq201
    have hq224 := (hf' 4 (by omega)).trans hq202
    have hq225 := (hf' 5 (by omega)).trans hq203
    have hq226 := (hf' 6 (by omega)).trans hq204
    have hq227 := (hf' 7 (by omega)).trans hq205
    have hq228 := (hf' 8 (by omega)).trans hq206
    have hq229 := (hf' 9 (by omega)).trans hq207
    have hq230 := (hf' 10 (by omega)).trans hq208
    have hq231 := (hf' 11 (by omega)).trans hq209
    have hq232 := (hf' 12 (by omega)).trans hq210
    have hq233 := (hf' 28 (by omega)).trans hq211
    have hq234 := (hf' 29 (by omega)).trans hq212
    have hq235 := (hf' 66 (by omega)).trans hq213
    have hq236 : ∀ s, s < 16 → u219[13 + s]? = some (ad (13 + s), iN K n ((fun _ _ => 0) s)) := fun s hs => (hf' (13 + s) (by omega)).trans (hq214 s hs)
    have hq237 : ∀ s, s < 12 → u219[30 + 3 * s]? = some (ad (30 + 3 * s), nO ad s ((fun _ => 0) s) ((fun _ => -1) s)) := fun s hs => (hf' (30 + 3 * s) (by omega)).trans (hq215 s hs)
    have hq238 : ∀ s, s < 12 → u219[31 + 3 * s]? = some (ad (31 + 3 * s), iN K 5 ((fun _ _ => 0) s)) := fun s hs => (hf' (31 + 3 * s) (by omega)).trans (hq216 s hs)
    have hq239 : ∀ s, s < 12 → u219[32 + 3 * s]? = some (ad (32 + 3 * s), zA K (2 * n) ((fun _ _ => false) s)) := fun s hs => (hf' (32 + 3 * s) (by omega)).trans (hq217 s hs)
    have fr240 := Fr.one hf'
    exact q_vretN hc (⟨hq220, hq221, hq222, hq223, hq224, hq225, hq226, hq227, hq228, hq229, hq230, hq231, hq232, hq236, hq234, hq237, hq238, hq239, hq235, (((((((((((((((fr0.trans fr5 (fun _ _ => by omega)).trans fr17 (fun _ _ => by omega)).trans fr28 (fun _ _ => by omega)).trans fr39 (fun _ _ => by omega)).trans fr46 (fun _ _ => by omega)).trans fr67 (fun _ _ => by omega)).trans fr82 (fun _ _ => by omega)).trans fr88 (fun _ _ => by omega)).trans fr118 (fun _ _ => by omega)).trans fr137 (fun _ _ => by omega)).trans fr156 (fun _ _ => by omega)).trans fr158 (fun _ _ => by omega)).trans fr196 (fun _ _ => by omega)).trans fr218 (fun _ _ => by omega)).trans fr240 (fun _ _ => by omega))⟩) hr hlk ⟨by omega, by omega⟩ dX4_init_122
  · refine q_aload_n hc 0 dX4_init_85 rfl ?_
    refine q_get hc 0 3 i4 hq159 rfl (by decide) f40 rfl rfl dX4_init_86 ?_
    refine q_iload hc 1 dX4_init_89 rfl ?_
    have hl9 : u157.length = 30 + 3 * i := len_of qL qE (by omega)
    have ho9 : Lo D u157 s.heap.size _ := Lo.of qL (show s.heap.size + (29 + 3 * i) = ad (29 + 3 * i) + 1 by have e1 := had (29 + 3 * i); omega)
    refine q_newO (ci := 3) (fs := [.null, .null, .int 0, .int 0]) (b := ad (30 + 3 * i)) hc hl9 ho9 (by have e1 := had (30 + 3 * i); omega) i3 tyX3 tyX3_ok (by decide +kernel) (by decide +kernel) (by decide +kernel) rfl (by decide +kernel) ⟨by dsimp only; omega, by dsimp only; omega⟩ dX4_init_91 (fun u241 hn' hf' => ?_)
    have hq242 : u241[30 + 3 * i]? = some (ad (30 + 3 * i), .inr (3, [.null, .null, .int 0, .int 0])) := hn'
    have hq243 : u241[31 + 3 * i]? = none := (hf' (31 + 3 * i) (by omega)).trans (List.getElem?_eq_none (by omega))
    have hq244 := (hf' 0 (by omega)).trans hq159
    have hq245 := (hf' 1 (by omega)).trans hq160
    have hq246 := (hf' 2 (by omega)).trans hq161
    have hq247 := (hf' 3 (by omega)).trans hq162
    have hq248 := (hf' 4 (by omega)).trans hq163
    have hq249 := (hf' 5 (by omega)).trans hq164
    have hq250 := (hf' 6 (by omega)).trans hq165
    have hq251 := (hf' 7 (by omega)).trans hq166
    have hq252 := (hf' 8 (by omega)).trans hq167
    have hq253 := (hf' 9 (by omega)).trans hq168
    have hq254 := (hf' 10 (by omega)).trans hq169
    have hq255 := (hf' 11 (by omega)).trans hq170
    have hq256 := (hf' 12 (by omega)).trans hq171
    have hq257 := (hf' 28 (by omega)).trans hq172
    have hq258 := (hf' 29 (by omega)).trans q29
    have hq259 := (hf' (29 + 3 * i) (by omega)).trans qL
    have hq260 : ∀ s, s < 16 → u241[13 + s]? = some (ad (13 + s), iN K n ((fun _ _ => 0) s)) := fun s hs => (hf' (13 + s) (by omega)).trans (hq173 s hs)
    have hq261 : ∀ s, s < i → u241[30 + 3 * s]? = some (ad (30 + 3 * s), nO ad s ((fun _ => 0) s) ((fun _ => -1) s)) := fun s hs => (hf' (30 + 3 * s) (by omega)).trans (qN s hs)
    have hq262 : ∀ s, s < i → u241[31 + 3 * s]? = some (ad (31 + 3 * s), iN K 5 ((fun _ _ => 0) s)) := fun s hs => (hf' (31 + 3 * s) (by omega)).trans (qP s hs)
    have hq263 : ∀ s, s < i → u241[32 + 3 * s]? = some (ad (32 + 3 * s), zA K (2 * n) ((fun _ _ => false) s)) := fun s hs => (hf' (32 + 3 * s) (by omega)).trans (qO s hs)
    have fr264 := Fr.one hf'
    refine q_dup hc dX4_init_94 rfl ?_
    refine q_aload_n hc 0 dX4_init_95 rfl ?_
    refine q_get hc 0 0 i4 hq244 rfl (by decide) f18 rfl rfl dX4_init_96 ?_
    refine q_get hc 1 3 i0 hq245 rfl (by decide) f44 rfl rfl dX4_init_99 ?_
    have hl9 : u241.length = 31 + 3 * i := len_of hq242 hq243 (by omega)
    have ho9 : Lo D u241 s.heap.size _ := Lo.of hq242 (show s.heap.size + (29 + 3 * i + 1) = ad (30 + 3 * i) + 1 by have e1 := had (30 + 3 * i); omega)
    refine q_callN (As := [.int (iZ ((2 * n : Nat) : Int))]) (rest := [.ref (ad (30 + 3 * i)), .int (iZ ((i : Nat) : Int)), .ref (ad 29)]) hc hAO (c_X3_init l D K u241 ad s0 had i n hq242 hq243 hn) (cwI 1 hc.1.2.2.2.2 gX4_init_X3_init rfl rfl rfl (hc.1.2.2.2.2 _ (by decide +kernel)) (hc.1.2.2.2.2 _ (by decide +kernel)) (hc.1.2.2.2.2 _ (by decide +kernel)) rfl (by decide +kernel) ⟨Nat.le_of_ble_eq_true rfl, Nat.le_of_ble_eq_true rfl⟩) ho9 (by omega) rfl rfl (by simp [Value.category]) dX4_init_102 ⟨by dsimp only; omega, by dsimp only; omega⟩ (fun u265 hp' => ?_)
    obtain ⟨hq266, hq267, hq268, hq269, fr270⟩ := hp'
    have hq271 := (fr270.at 0 (by omega)).trans hq244
    have hq272 := (fr270.at 1 (by omega)).trans hq245
    have hq273 := (fr270.at 2 (by omega)).trans hq246
    have hq274 := (fr270.at 3 (by omega)).trans hq247
    have hq275 := (fr270.at 4 (by omega)).trans hq248
    have hq276 := (fr270.at 5 (by omega)).trans hq249
    have hq277 := (fr270.at 6 (by omega)).trans hq250
    have hq278 := (fr270.at 7 (by omega)).trans hq251
    have hq279 := (fr270.at 8 (by omega)).trans hq252
    have hq280 := (fr270.at 9 (by omega)).trans hq253
    have hq281 := (fr270.at 10 (by omega)).trans hq254
    have hq282 := (fr270.at 11 (by omega)).trans hq255
    have hq283 := (fr270.at 12 (by omega)).trans hq256
    have hq284 := (fr270.at 28 (by omega)).trans hq257
    have hq285 := (fr270.at 29 (by omega)).trans hq258
    have hq286 : ∀ s, s < 16 → u265[13 + s]? = some (ad (13 + s), iN K n ((fun _ _ => 0) s)) := fun s hs => (fr270.at (13 + s) (by omega)).trans (hq260 s hs)
    have hq287 : ∀ s, s < i → u265[30 + 3 * s]? = some (ad (30 + 3 * s), nO ad s ((fun _ => 0) s) ((fun _ => -1) s)) := fun s hs => (fr270.at (30 + 3 * s) (by omega)).trans (hq261 s hs)
    have hq288 : ∀ s, s < i → u265[31 + 3 * s]? = some (ad (31 + 3 * s), iN K 5 ((fun _ _ => 0) s)) := fun s hs => (fr270.at (31 + 3 * s) (by omega)).trans (hq262 s hs)
    have hq289 : ∀ s, s < i → u265[32 + 3 * s]? = some (ad (32 + 3 * s), zA K (2 * n) ((fun _ _ => false) s)) := fun s hs => (fr270.at (32 + 3 * s) (by omega)).trans (hq263 s hs)
    refine q_nast (j := i) hc 29 (30 + 3 * i) hq285 hq266 rfl (by omega) (by omega) dX4_init_105 (fun u290 hn' hf' => ?_)
    have hq291 : u290[29]? = some (ad 29, nA K 12 (va_up f i (some (ad (30 + 3 * i))))) := hn'
    have hq292 := (hf' 0 (by omega)).trans hq271
    have hq293 := (hf' 1 (by omega)).trans hq272
    have hq294 := (hf' 2 (by omega)).trans hq273
    have hq295 := (hf' 3 (by omega)).trans hq274
    have hq296 := (hf' 4 (by omega)).trans hq275
    have hq297 := (hf' 5 (by omega)).trans hq276
    have hq298 := (hf' 6 (by omega)).trans hq277
    have hq299 := (hf' 7 (by omega)).trans hq278
    have hq300 := (hf' 8 (by omega)).trans hq279
    have hq301 := (hf' 9 (by omega)).trans hq280
    have hq302 := (hf' 10 (by omega)).trans hq281
    have hq303 := (hf' 11 (by omega)).trans hq282
    have hq304 := (hf' 12 (by omega)).trans hq283
    have hq305 := (hf' 28 (by omega)).trans hq284
    have hq306 := (hf' (30 + 3 * i) (by omega)).trans hq266
    have hq307 := (hf' (31 + 3 * i) (by omega)).trans hq267
    have hq308 := (hf' (32 + 3 * i) (by omega)).trans hq268
    have hq309 := (hf' (33 + 3 * i) (by omega)).trans hq269
    have hq310 : ∀ s, s < 16 → u290[13 + s]? = some (ad (13 + s), iN K n ((fun _ _ => 0) s)) := fun s hs => (hf' (13 + s) (by omega)).trans (hq286 s hs)
    have hq311 : ∀ s, s < i → u290[30 + 3 * s]? = some (ad (30 + 3 * s), nO ad s ((fun _ => 0) s) ((fun _ => -1) s)) := fun s hs => (hf' (30 + 3 * s) (by omega)).trans (hq287 s hs)
    have hq312 : ∀ s, s < i → u290[31 + 3 * s]? = some (ad (31 + 3 * s), iN K 5 ((fun _ _ => 0) s)) := fun s hs => (hf' (31 + 3 * s) (by omega)).trans (hq288 s hs)
    have hq313 : ∀ s, s < i → u290[32 + 3 * s]? = some (ad (32 + 3 * s), zA K (2 * n) ((fun _ _ => false) s)) := fun s hs => (hf' (32 + 3 * s) (by omega)).trans (hq289 s hs)
    have fr314 := Fr.one hf'
    refine q_iincN (q := 1) hc 1 [(4, .int (iZ ((i + 1 : Nat) : Int))), (0, .ref (ad 0))] dX4_init_106 rfl rfl (by decide) rfl ?_
    refine q_goto hc 78 dX4_init_109 (by decide) ?_
    refine V.cs (k := 29 + 3 * (i + 1)) (n := 2219 + 137 * (i + 1)) (by omega) (by omega) ?_
    refine V.sub [1, 0] rfl ?_
    have hz0 : ∀ s, s < i + 1 → u290[30 + 3 * s]? = some (ad (30 + 3 * s), nO ad s ((fun _ => 0) s) ((fun _ => -1) s)) := fun s hs => by
      by_cases e9 : s = i
      · rw [e9]; exact hq306
      · exact hq311 s (by omega)
    have hz1 : ∀ s, s < i + 1 → u290[31 + 3 * s]? = some (ad (31 + 3 * s), iN K 5 ((fun _ _ => 0) s)) := fun s hs => by
      by_cases e9 : s = i
      · rw [e9]; exact hq307
      · exact hq312 s (by omega)
    have hz2 : ∀ s, s < i + 1 → u290[32 + 3 * s]? = some (ad (32 + 3 * s), zA K (2 * n) ((fun _ _ => false) s)) := fun s hs => by
      by_cases e9 : s = i
      · rw [e9]; exact hq308
      · exact hq313 s (by omega)
    have hz4 : u290[30 + 3 * (i + 1)]? = none := by rw [show 30 + 3 * (i + 1) = 33 + 3 * i by omega]; exact hq309
    have hz5 : ∃ e9, u290[29 + 3 * (i + 1)]? = some (ad (29 + 3 * (i + 1)), e9) := ⟨_, by rw [show 29 + 3 * (i + 1) = 32 + 3 * i by omega]; exact hq308⟩
    exact ih78 (i + 1, va_up f i (some (ad (30 + 3 * i)))) _ (by omega) ⟨(by omega), (show ∀ k, va_up f i (some (ad (30 + 3 * i))) k = if k < i + 1 then nF ad k else none from upd_hf (g := nF ad) (f0 := fun _ => none) hf), hq291, hz0, hz1, hz2, hz4, hz5, (((fr158.trans fr264 (fun _ _ => by omega)).trans fr270 (fun _ _ => by omega)).trans fr314 (fun _ _ => by omega))⟩
