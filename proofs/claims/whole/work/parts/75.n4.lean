
set_option maxRecDepth 100000 in
set_option maxHeartbeats 8000000 in
theorem c_X5_init (l : Launch) (D : va_G) (K : Nat → ClassId) (ws : va_W) (ad : Nat → Nat) (s0 : Nat) (had : ∀ k, ad k = s0 + k) (a1 a2 a3 : Int) (w h n : Nat) (c0 : Nat) (h66 : ws[66]? = some (ad 66, .inr (5, [.int 0, .int 0, .int 0, .null, .null, .int 0, .null, .null, .null, .null, .int 0, .null, .null, .null, .null, .null]))) (hE : ws[67]? = none) (ha1 : -2147483648 ≤ a1 ∧ a1 < 2147483648) (ha2 : -2147483648 ≤ a2 ∧ a2 < 2147483648) (ha3 : -2147483648 ≤ a3 ∧ a3 < 2147483648) (hw9 : nrZ a1 2 8 = ((w : Nat) : Int)) (hh9 : nrZ a2 2 8 = ((h : Nat) : Int)) (hc9 : nrZ a3 0 20 = ((c0 : Nat) : Int)) : MNv l yX5_init wsX5_init ({ frames := 1, cells := 11, slots := 4308, locals := 20 }) D K ws [.ref (ad 66), .int (iZ a1), .int (iZ a2), .int (iZ a3)] (s0 + (67)) 11 4308 (fun u => (u[66]? = some (ad 66, mO ad w h 0 0 0)) ∧ (u[67]? = some (ad 67, iN K 128 (mA n c0 (fun _ => c0)))) ∧ (u[68]? = some (ad 68, iN K 128 (mA n 0 (fun _ => 0)))) ∧ (u[69]? = some (ad 69, iN K 12 (fun _ => 0))) ∧ (u[70]? = some (ad 70, iN K 60 (mP (fun _ _ => 0)))) ∧ (u[71]? = some (ad 71, zA K 12 (mHr (fun _ => -1)))) ∧ (u[72]? = some (ad 72, zA K 1536 (mRo n (fun _ _ => false)))) ∧ (u[73]? = some (ad 73, zA K 64 (fun _ => false))) ∧ (u[74]? = some (ad 74, jN K 64 (fun _ => 0))) ∧ (u[75]? = some (ad 75, jN K 128 (fun _ => 0))) ∧ (u[76]? = some (ad 76, zA K 128 (fun _ => false))) ∧ (u[77]? = some (ad 77, iN K 2048 (fun _ => 0))) ∧ (u[78]? = none) ∧ (Fr (fun j => 66 ≤ j) ws u)) := by
  refine q_entNv RX5 [(0, .ref (ad 66)), (1, .int (iZ a1)), (2, .int (iZ a2)), (3, .int (iZ a3))] (by decide) rfl rfl (Nat.le_of_ble_eq_true rfl) rfl rfl ?_
  intro p e s m args below meth c hc hAO hin hsz hr hlk
  have i5 : ∀ w ∈ u_ws RX5 TX5 16, w ∈ wsX5_init := by decide +kernel
  have f7 := hc.1.2.2.2.2 (.fieldLink RX5 7 "GlobalRoutesModel" "capacities" "[I") (by decide +kernel)
  have f13 := hc.1.2.2.2.2 (.fieldLink RX5 13 "GlobalRoutesModel" "histories" "[I") (by decide +kernel)
  have f16 := hc.1.2.2.2.2 (.fieldLink RX5 16 "GlobalRoutesModel" "pins" "[I") (by decide +kernel)
  have f19 := hc.1.2.2.2.2 (.fieldLink RX5 19 "GlobalRoutesModel" "pinCells" "[I") (by decide +kernel)
  have f22 := hc.1.2.2.2.2 (.fieldLink RX5 22 "GlobalRoutesModel" "hasRoute" "[Z") (by decide +kernel)
  have f26 := hc.1.2.2.2.2 (.fieldLink RX5 26 "GlobalRoutesModel" "routes" "[Z") (by decide +kernel)
  have f29 := hc.1.2.2.2.2 (.fieldLink RX5 29 "GlobalRoutesModel" "inTree" "[Z") (by decide +kernel)
  have f32 := hc.1.2.2.2.2 (.fieldLink RX5 32 "GlobalRoutesModel" "distances" "[J") (by decide +kernel)
  have f36 := hc.1.2.2.2.2 (.fieldLink RX5 36 "GlobalRoutesModel" "costs" "[J") (by decide +kernel)
  have f39 := hc.1.2.2.2.2 (.fieldLink RX5 39 "GlobalRoutesModel" "reserved" "[Z") (by decide +kernel)
  have f42 := hc.1.2.2.2.2 (.fieldLink RX5 42 "GlobalRoutesModel" "leasts" "[I") (by decide +kernel)
  have f45 := hc.1.2.2.2.2 (.fieldLink RX5 45 "GlobalRoutesModel" "width" "I") (by decide +kernel)
  have f49 := hc.1.2.2.2.2 (.fieldLink RX5 49 "GlobalRoutesModel" "height" "I") (by decide +kernel)
  have fr0 : Fr (fun j => 66 ≤ j) ws ws := Fr.rfl
  have hw98 : (a1 < 2 → w = 2) ∧ (8 < a1 → w = 8) ∧ (2 ≤ a1 → a1 ≤ 8 → ((w : Nat) : Int) = a1) := by
    unfold nrZ at hw9
    split at hw9 <;> (try split at hw9) <;> omega
  have hh98 : (a2 < 2 → h = 2) ∧ (8 < a2 → h = 8) ∧ (2 ≤ a2 → a2 ≤ 8 → ((h : Nat) : Int) = a2) := by
    unfold nrZ at hh9
    split at hh9 <;> (try split at hh9) <;> omega
  have hc98 : (a3 < 0 → c0 = 0) ∧ (20 < a3 → c0 = 20) ∧ (0 ≤ a3 → a3 ≤ 20 → ((c0 : Nat) : Int) = a3) := by
    unfold nrZ at hc9
    split at hc9 <;> (try split at hc9) <;> omega
  refine q_aload_n hc 0 dX5_init_0 rfl ?_
  refine q_objInit hc (by decide +kernel) (by decide +kernel) (by decide +kernel) (by decide) (by simp) dX5_init_1 ?_
  refine q_aload_n hc 0 dX5_init_4 rfl ?_
  refine q_sipushN hc 128 dX5_init_5 (by decide +kernel) ?_
  have hl9 : ws.length = 67 := len_of h66 hE (by omega)
  have ho9 : Lo D ws s.heap.size _ := Lo.of h66 (show s.heap.size + (0) = ad 66 + 1 by have e1 := had 66; omega)
  refine q_newIN (n := 128) (b := ad 67) hc hl9 ho9 (by have e1 := had 67; omega) (by decide +kernel) (by omega) ⟨by dsimp only; omega, by dsimp only; omega⟩ dX5_init_8 (fun u1 hn' hf' => ?_)
  have hq2 : u1[67]? = some (ad 67, iN K 128 (fun _ => 0)) := hn'
  have hq3 : u1[68]? = none := (hf' 68 (by omega)).trans (List.getElem?_eq_none (by omega))
  have hq4 := (hf' 66 (by omega)).trans h66
  have fr5 := Fr.one hf'
  refine q_putF (ty := .array .int) (fs' := [.int 0, .int 0, .int 0, .ref (ad 67), .null, .int 0, .null, .null, .null, .null, .int 0, .null, .null, .null, .null, .null]) hc 66 3 i5 tyX5 tyX5_ok nmX5 hq4 rfl (by decide) f7 rfl rfl hin rfl (by decide +kernel) rfl rfl (Nat.le_of_ble_eq_true rfl) rfl dX5_init_10 (fun u6 hn' hf' => ?_)
  have hq7 : u6[66]? = some (ad 66, .inr (5, [.int 0, .int 0, .int 0, .ref (ad 67), .null, .int 0, .null, .null, .null, .null, .int 0, .null, .null, .null, .null, .null])) := hn'
  have hq8 := (hf' 67 (by omega)).trans hq2
  have hq9 := (hf' 68 (by omega)).trans hq3
  have fr10 := Fr.one hf'
  refine q_aload_n hc 0 dX5_init_13 rfl ?_
  refine q_sipushN hc 128 dX5_init_14 (by decide +kernel) ?_
  have hl9 : u6.length = 68 := len_of hq8 hq9 (by omega)
  have ho9 : Lo D u6 s.heap.size _ := Lo.of hq8 (show s.heap.size + (0 + 1) = ad 67 + 1 by have e1 := had 67; omega)
  refine q_newIN (n := 128) (b := ad 68) hc hl9 ho9 (by have e1 := had 68; omega) (by decide +kernel) (by omega) ⟨by dsimp only; omega, by dsimp only; omega⟩ dX5_init_17 (fun u11 hn' hf' => ?_)
  have hq12 : u11[68]? = some (ad 68, iN K 128 (fun _ => 0)) := hn'
  have hq13 : u11[69]? = none := (hf' 69 (by omega)).trans (List.getElem?_eq_none (by omega))
  have hq14 := (hf' 66 (by omega)).trans hq7
  have hq15 := (hf' 67 (by omega)).trans hq8
  have fr16 := Fr.one hf'
  refine q_putF (ty := .array .int) (fs' := [.int 0, .int 0, .int 0, .ref (ad 67), .ref (ad 68), .int 0, .null, .null, .null, .null, .int 0, .null, .null, .null, .null, .null]) hc 66 4 i5 tyX5 tyX5_ok nmX5 hq14 rfl (by decide) f13 rfl rfl hin rfl (by decide +kernel) rfl rfl (Nat.le_of_ble_eq_true rfl) rfl dX5_init_19 (fun u17 hn' hf' => ?_)
  have hq18 : u17[66]? = some (ad 66, .inr (5, [.int 0, .int 0, .int 0, .ref (ad 67), .ref (ad 68), .int 0, .null, .null, .null, .null, .int 0, .null, .null, .null, .null, .null])) := hn'
  have hq19 := (hf' 67 (by omega)).trans hq15
  have hq20 := (hf' 68 (by omega)).trans hq12
  have hq21 := (hf' 69 (by omega)).trans hq13
  have fr22 := Fr.one hf'
  refine q_aload_n hc 0 dX5_init_22 rfl ?_
  refine q_bipushN hc 12 dX5_init_23 (by decide +kernel) ?_
  have hl9 : u17.length = 69 := len_of hq20 hq21 (by omega)
  have ho9 : Lo D u17 s.heap.size _ := Lo.of hq20 (show s.heap.size + (0 + 1 + 1) = ad 68 + 1 by have e1 := had 68; omega)
  refine q_newIN (n := 12) (b := ad 69) hc hl9 ho9 (by have e1 := had 69; omega) (by decide +kernel) (by omega) ⟨by dsimp only; omega, by dsimp only; omega⟩ dX5_init_25 (fun u23 hn' hf' => ?_)
  have hq24 : u23[69]? = some (ad 69, iN K 12 (fun _ => 0)) := hn'
  have hq25 : u23[70]? = none := (hf' 70 (by omega)).trans (List.getElem?_eq_none (by omega))
  have hq26 := (hf' 66 (by omega)).trans hq18
  have hq27 := (hf' 67 (by omega)).trans hq19
  have hq28 := (hf' 68 (by omega)).trans hq20
  have fr29 := Fr.one hf'
  refine q_putF (ty := .array .int) (fs' := [.int 0, .int 0, .int 0, .ref (ad 67), .ref (ad 68), .int 0, .ref (ad 69), .null, .null, .null, .int 0, .null, .null, .null, .null, .null]) hc 66 6 i5 tyX5 tyX5_ok nmX5 hq26 rfl (by decide) f16 rfl rfl hin rfl (by decide +kernel) rfl rfl (Nat.le_of_ble_eq_true rfl) rfl dX5_init_27 (fun u30 hn' hf' => ?_)
  have hq31 : u30[66]? = some (ad 66, .inr (5, [.int 0, .int 0, .int 0, .ref (ad 67), .ref (ad 68), .int 0, .ref (ad 69), .null, .null, .null, .int 0, .null, .null, .null, .null, .null])) := hn'
  have hq32 := (hf' 67 (by omega)).trans hq27
  have hq33 := (hf' 68 (by omega)).trans hq28
  have hq34 := (hf' 69 (by omega)).trans hq24
  have hq35 := (hf' 70 (by omega)).trans hq25
  have fr36 := Fr.one hf'
  refine q_aload_n hc 0 dX5_init_30 rfl ?_
  refine q_bipushN hc 60 dX5_init_31 (by decide +kernel) ?_
  have hl9 : u30.length = 70 := len_of hq34 hq35 (by omega)
  have ho9 : Lo D u30 s.heap.size _ := Lo.of hq34 (show s.heap.size + (0 + 1 + 1 + 1) = ad 69 + 1 by have e1 := had 69; omega)
  refine q_newIN (n := 60) (b := ad 70) hc hl9 ho9 (by have e1 := had 70; omega) (by decide +kernel) (by omega) ⟨by dsimp only; omega, by dsimp only; omega⟩ dX5_init_33 (fun u37 hn' hf' => ?_)
  have hq38 : u37[70]? = some (ad 70, iN K 60 (fun _ => 0)) := hn'
  have hq39 : u37[71]? = none := (hf' 71 (by omega)).trans (List.getElem?_eq_none (by omega))
  have hq40 := (hf' 66 (by omega)).trans hq31
  have hq41 := (hf' 67 (by omega)).trans hq32
  have hq42 := (hf' 68 (by omega)).trans hq33
  have hq43 := (hf' 69 (by omega)).trans hq34
  have fr44 := Fr.one hf'
  refine q_putF (ty := .array .int) (fs' := [.int 0, .int 0, .int 0, .ref (ad 67), .ref (ad 68), .int 0, .ref (ad 69), .ref (ad 70), .null, .null, .int 0, .null, .null, .null, .null, .null]) hc 66 7 i5 tyX5 tyX5_ok nmX5 hq40 rfl (by decide) f19 rfl rfl hin rfl (by decide +kernel) rfl rfl (Nat.le_of_ble_eq_true rfl) rfl dX5_init_35 (fun u45 hn' hf' => ?_)
  have hq46 : u45[66]? = some (ad 66, .inr (5, [.int 0, .int 0, .int 0, .ref (ad 67), .ref (ad 68), .int 0, .ref (ad 69), .ref (ad 70), .null, .null, .int 0, .null, .null, .null, .null, .null])) := hn'
  have hq47 := (hf' 67 (by omega)).trans hq41
  have hq48 := (hf' 68 (by omega)).trans hq42
  have hq49 := (hf' 69 (by omega)).trans hq43
  have hq50 := (hf' 70 (by omega)).trans hq38
  have hq51 := (hf' 71 (by omega)).trans hq39
  have fr52 := Fr.one hf'
  refine q_aload_n hc 0 dX5_init_38 rfl ?_
  refine q_bipushN hc 12 dX5_init_39 (by decide +kernel) ?_
  have hl9 : u45.length = 71 := len_of hq50 hq51 (by omega)
  have ho9 : Lo D u45 s.heap.size _ := Lo.of hq50 (show s.heap.size + (0 + 1 + 1 + 1 + 1) = ad 70 + 1 by have e1 := had 70; omega)
  refine q_newZ (n := 12) (b := ad 71) hc hl9 ho9 (by have e1 := had 71; omega) (by decide +kernel) (by omega) ⟨by dsimp only; omega, by dsimp only; omega⟩ dX5_init_41 (fun u53 hn' hf' => ?_)
  have hq54 : u53[71]? = some (ad 71, zA K 12 (fun _ => false)) := hn'
  have hq55 : u53[72]? = none := (hf' 72 (by omega)).trans (List.getElem?_eq_none (by omega))
  have hq56 := (hf' 66 (by omega)).trans hq46
  have hq57 := (hf' 67 (by omega)).trans hq47
  have hq58 := (hf' 68 (by omega)).trans hq48
  have hq59 := (hf' 69 (by omega)).trans hq49
  have hq60 := (hf' 70 (by omega)).trans hq50
  have fr61 := Fr.one hf'
  refine q_putF (ty := .array .boolean) (fs' := [.int 0, .int 0, .int 0, .ref (ad 67), .ref (ad 68), .int 0, .ref (ad 69), .ref (ad 70), .ref (ad 71), .null, .int 0, .null, .null, .null, .null, .null]) hc 66 8 i5 tyX5 tyX5_ok nmX5 hq56 rfl (by decide) f22 rfl rfl hin rfl (by decide +kernel) rfl rfl (Nat.le_of_ble_eq_true rfl) rfl dX5_init_43 (fun u62 hn' hf' => ?_)
  have hq63 : u62[66]? = some (ad 66, .inr (5, [.int 0, .int 0, .int 0, .ref (ad 67), .ref (ad 68), .int 0, .ref (ad 69), .ref (ad 70), .ref (ad 71), .null, .int 0, .null, .null, .null, .null, .null])) := hn'
  have hq64 := (hf' 67 (by omega)).trans hq57
  have hq65 := (hf' 68 (by omega)).trans hq58
  have hq66 := (hf' 69 (by omega)).trans hq59
  have hq67 := (hf' 70 (by omega)).trans hq60
  have hq68 := (hf' 71 (by omega)).trans hq54
  have hq69 := (hf' 72 (by omega)).trans hq55
  have fr70 := Fr.one hf'
  refine q_aload_n hc 0 dX5_init_46 rfl ?_
  refine q_sipushN hc 1536 dX5_init_47 (by decide +kernel) ?_
  have hl9 : u62.length = 72 := len_of hq68 hq69 (by omega)
  have ho9 : Lo D u62 s.heap.size _ := Lo.of hq68 (show s.heap.size + (0 + 1 + 1 + 1 + 1 + 1) = ad 71 + 1 by have e1 := had 71; omega)
  refine q_newZ (n := 1536) (b := ad 72) hc hl9 ho9 (by have e1 := had 72; omega) (by decide +kernel) (by omega) ⟨by dsimp only; omega, by dsimp only; omega⟩ dX5_init_50 (fun u71 hn' hf' => ?_)
  have hq72 : u71[72]? = some (ad 72, zA K 1536 (fun _ => false)) := hn'
  have hq73 : u71[73]? = none := (hf' 73 (by omega)).trans (List.getElem?_eq_none (by omega))
  have hq74 := (hf' 66 (by omega)).trans hq63
  have hq75 := (hf' 67 (by omega)).trans hq64
  have hq76 := (hf' 68 (by omega)).trans hq65
  have hq77 := (hf' 69 (by omega)).trans hq66
  have hq78 := (hf' 70 (by omega)).trans hq67
  have hq79 := (hf' 71 (by omega)).trans hq68
  have fr80 := Fr.one hf'
  refine q_putF (ty := .array .boolean) (fs' := [.int 0, .int 0, .int 0, .ref (ad 67), .ref (ad 68), .int 0, .ref (ad 69), .ref (ad 70), .ref (ad 71), .ref (ad 72), .int 0, .null, .null, .null, .null, .null]) hc 66 9 i5 tyX5 tyX5_ok nmX5 hq74 rfl (by decide) f26 rfl rfl hin rfl (by decide +kernel) rfl rfl (Nat.le_of_ble_eq_true rfl) rfl dX5_init_52 (fun u81 hn' hf' => ?_)
  have hq82 : u81[66]? = some (ad 66, .inr (5, [.int 0, .int 0, .int 0, .ref (ad 67), .ref (ad 68), .int 0, .ref (ad 69), .ref (ad 70), .ref (ad 71), .ref (ad 72), .int 0, .null, .null, .null, .null, .null])) := hn'
  have hq83 := (hf' 67 (by omega)).trans hq75
  have hq84 := (hf' 68 (by omega)).trans hq76
  have hq85 := (hf' 69 (by omega)).trans hq77
  have hq86 := (hf' 70 (by omega)).trans hq78
  have hq87 := (hf' 71 (by omega)).trans hq79
  have hq88 := (hf' 72 (by omega)).trans hq72
  have hq89 := (hf' 73 (by omega)).trans hq73
  have fr90 := Fr.one hf'
  refine q_aload_n hc 0 dX5_init_55 rfl ?_
  refine q_bipushN hc 64 dX5_init_56 (by decide +kernel) ?_
  have hl9 : u81.length = 73 := len_of hq88 hq89 (by omega)
  have ho9 : Lo D u81 s.heap.size _ := Lo.of hq88 (show s.heap.size + (0 + 1 + 1 + 1 + 1 + 1 + 1) = ad 72 + 1 by have e1 := had 72; omega)
  refine q_newZ (n := 64) (b := ad 73) hc hl9 ho9 (by have e1 := had 73; omega) (by decide +kernel) (by omega) ⟨by dsimp only; omega, by dsimp only; omega⟩ dX5_init_58 (fun u91 hn' hf' => ?_)
  have hq92 : u91[73]? = some (ad 73, zA K 64 (fun _ => false)) := hn'
  have hq93 : u91[74]? = none := (hf' 74 (by omega)).trans (List.getElem?_eq_none (by omega))
  have hq94 := (hf' 66 (by omega)).trans hq82
  have hq95 := (hf' 67 (by omega)).trans hq83
  have hq96 := (hf' 68 (by omega)).trans hq84
  have hq97 := (hf' 69 (by omega)).trans hq85
  have hq98 := (hf' 70 (by omega)).trans hq86
  have hq99 := (hf' 71 (by omega)).trans hq87
  have hq100 := (hf' 72 (by omega)).trans hq88
  have fr101 := Fr.one hf'
  refine q_putF (ty := .array .boolean) (fs' := [.int 0, .int 0, .int 0, .ref (ad 67), .ref (ad 68), .int 0, .ref (ad 69), .ref (ad 70), .ref (ad 71), .ref (ad 72), .int 0, .ref (ad 73), .null, .null, .null, .null]) hc 66 11 i5 tyX5 tyX5_ok nmX5 hq94 rfl (by decide) f29 rfl rfl hin rfl (by decide +kernel) rfl rfl (Nat.le_of_ble_eq_true rfl) rfl dX5_init_60 (fun u102 hn' hf' => ?_)
  have hq103 : u102[66]? = some (ad 66, .inr (5, [.int 0, .int 0, .int 0, .ref (ad 67), .ref (ad 68), .int 0, .ref (ad 69), .ref (ad 70), .ref (ad 71), .ref (ad 72), .int 0, .ref (ad 73), .null, .null, .null, .null])) := hn'
  have hq104 := (hf' 67 (by omega)).trans hq95
  have hq105 := (hf' 68 (by omega)).trans hq96
  have hq106 := (hf' 69 (by omega)).trans hq97
  have hq107 := (hf' 70 (by omega)).trans hq98
  have hq108 := (hf' 71 (by omega)).trans hq99
  have hq109 := (hf' 72 (by omega)).trans hq100
  have hq110 := (hf' 73 (by omega)).trans hq92
  have hq111 := (hf' 74 (by omega)).trans hq93
  have fr112 := Fr.one hf'
  refine q_aload_n hc 0 dX5_init_63 rfl ?_
  refine q_bipushN hc 64 dX5_init_64 (by decide +kernel) ?_
  have hl9 : u102.length = 74 := len_of hq110 hq111 (by omega)
  have ho9 : Lo D u102 s.heap.size _ := Lo.of hq110 (show s.heap.size + (0 + 1 + 1 + 1 + 1 + 1 + 1 + 1) = ad 73 + 1 by have e1 := had 73; omega)
  refine q_newJN (n := 64) (b := ad 74) hc hl9 ho9 (by have e1 := had 74; omega) (by decide +kernel) (by omega) ⟨by dsimp only; omega, by dsimp only; omega⟩ dX5_init_66 (fun u113 hn' hf' => ?_)
  have hq114 : u113[74]? = some (ad 74, jN K 64 (fun _ => 0)) := hn'
  have hq115 : u113[75]? = none := (hf' 75 (by omega)).trans (List.getElem?_eq_none (by omega))
  have hq116 := (hf' 66 (by omega)).trans hq103
  have hq117 := (hf' 67 (by omega)).trans hq104
  have hq118 := (hf' 68 (by omega)).trans hq105
  have hq119 := (hf' 69 (by omega)).trans hq106
  have hq120 := (hf' 70 (by omega)).trans hq107
  have hq121 := (hf' 71 (by omega)).trans hq108
  have hq122 := (hf' 72 (by omega)).trans hq109
  have hq123 := (hf' 73 (by omega)).trans hq110
  have fr124 := Fr.one hf'
  refine q_putF (ty := .array .long) (fs' := [.int 0, .int 0, .int 0, .ref (ad 67), .ref (ad 68), .int 0, .ref (ad 69), .ref (ad 70), .ref (ad 71), .ref (ad 72), .int 0, .ref (ad 73), .ref (ad 74), .null, .null, .null]) hc 66 12 i5 tyX5 tyX5_ok nmX5 hq116 rfl (by decide) f32 rfl rfl hin rfl (by decide +kernel) rfl rfl (Nat.le_of_ble_eq_true rfl) rfl dX5_init_68 (fun u125 hn' hf' => ?_)
  have hq126 : u125[66]? = some (ad 66, .inr (5, [.int 0, .int 0, .int 0, .ref (ad 67), .ref (ad 68), .int 0, .ref (ad 69), .ref (ad 70), .ref (ad 71), .ref (ad 72), .int 0, .ref (ad 73), .ref (ad 74), .null, .null, .null])) := hn'
  have hq127 := (hf' 67 (by omega)).trans hq117
  have hq128 := (hf' 68 (by omega)).trans hq118
  have hq129 := (hf' 69 (by omega)).trans hq119
  have hq130 := (hf' 70 (by omega)).trans hq120
  have hq131 := (hf' 71 (by omega)).trans hq121
  have hq132 := (hf' 72 (by omega)).trans hq122
  have hq133 := (hf' 73 (by omega)).trans hq123
  have hq134 := (hf' 74 (by omega)).trans hq114
  have hq135 := (hf' 75 (by omega)).trans hq115
  have fr136 := Fr.one hf'
  refine q_aload_n hc 0 dX5_init_71 rfl ?_
  refine q_sipushN hc 128 dX5_init_72 (by decide +kernel) ?_
  have hl9 : u125.length = 75 := len_of hq134 hq135 (by omega)
  have ho9 : Lo D u125 s.heap.size _ := Lo.of hq134 (show s.heap.size + (0 + 1 + 1 + 1 + 1 + 1 + 1 + 1 + 1) = ad 74 + 1 by have e1 := had 74; omega)
  refine q_newJN (n := 128) (b := ad 75) hc hl9 ho9 (by have e1 := had 75; omega) (by decide +kernel) (by omega) ⟨by dsimp only; omega, by dsimp only; omega⟩ dX5_init_75 (fun u137 hn' hf' => ?_)
  have hq138 : u137[75]? = some (ad 75, jN K 128 (fun _ => 0)) := hn'
  have hq139 : u137[76]? = none := (hf' 76 (by omega)).trans (List.getElem?_eq_none (by omega))
  have hq140 := (hf' 66 (by omega)).trans hq126
  have hq141 := (hf' 67 (by omega)).trans hq127
  have hq142 := (hf' 68 (by omega)).trans hq128
  have hq143 := (hf' 69 (by omega)).trans hq129
  have hq144 := (hf' 70 (by omega)).trans hq130
  have hq145 := (hf' 71 (by omega)).trans hq131
  have hq146 := (hf' 72 (by omega)).trans hq132
  have hq147 := (hf' 73 (by omega)).trans hq133
  have hq148 := (hf' 74 (by omega)).trans hq134
  have fr149 := Fr.one hf'
  refine q_putF (ty := .array .long) (fs' := [.int 0, .int 0, .int 0, .ref (ad 67), .ref (ad 68), .int 0, .ref (ad 69), .ref (ad 70), .ref (ad 71), .ref (ad 72), .int 0, .ref (ad 73), .ref (ad 74), .ref (ad 75), .null, .null]) hc 66 13 i5 tyX5 tyX5_ok nmX5 hq140 rfl (by decide) f36 rfl rfl hin rfl (by decide +kernel) rfl rfl (Nat.le_of_ble_eq_true rfl) rfl dX5_init_77 (fun u150 hn' hf' => ?_)
  have hq151 : u150[66]? = some (ad 66, .inr (5, [.int 0, .int 0, .int 0, .ref (ad 67), .ref (ad 68), .int 0, .ref (ad 69), .ref (ad 70), .ref (ad 71), .ref (ad 72), .int 0, .ref (ad 73), .ref (ad 74), .ref (ad 75), .null, .null])) := hn'
  have hq152 := (hf' 67 (by omega)).trans hq141
  have hq153 := (hf' 68 (by omega)).trans hq142
  have hq154 := (hf' 69 (by omega)).trans hq143
  have hq155 := (hf' 70 (by omega)).trans hq144
  have hq156 := (hf' 71 (by omega)).trans hq145
  have hq157 := (hf' 72 (by omega)).trans hq146
  have hq158 := (hf' 73 (by omega)).trans hq147
  have hq159 := (hf' 74 (by omega)).trans hq148
  have hq160 := (hf' 75 (by omega)).trans hq138
  have hq161 := (hf' 76 (by omega)).trans hq139
  have fr162 := Fr.one hf'
  refine q_aload_n hc 0 dX5_init_80 rfl ?_
  refine q_sipushN hc 128 dX5_init_81 (by decide +kernel) ?_
  have hl9 : u150.length = 76 := len_of hq160 hq161 (by omega)
  have ho9 : Lo D u150 s.heap.size _ := Lo.of hq160 (show s.heap.size + (0 + 1 + 1 + 1 + 1 + 1 + 1 + 1 + 1 + 1) = ad 75 + 1 by have e1 := had 75; omega)
  refine q_newZ (n := 128) (b := ad 76) hc hl9 ho9 (by have e1 := had 76; omega) (by decide +kernel) (by omega) ⟨by dsimp only; omega, by dsimp only; omega⟩ dX5_init_84 (fun u163 hn' hf' => ?_)
  have hq164 : u163[76]? = some (ad 76, zA K 128 (fun _ => false)) := hn'
  have hq165 : u163[77]? = none := (hf' 77 (by omega)).trans (List.getElem?_eq_none (by omega))
  have hq166 := (hf' 66 (by omega)).trans hq151
  have hq167 := (hf' 67 (by omega)).trans hq152
  have hq168 := (hf' 68 (by omega)).trans hq153
  have hq169 := (hf' 69 (by omega)).trans hq154
  have hq170 := (hf' 70 (by omega)).trans hq155
  have hq171 := (hf' 71 (by omega)).trans hq156
  have hq172 := (hf' 72 (by omega)).trans hq157
  have hq173 := (hf' 73 (by omega)).trans hq158
  have hq174 := (hf' 74 (by omega)).trans hq159
  have hq175 := (hf' 75 (by omega)).trans hq160
  have fr176 := Fr.one hf'
  refine q_putF (ty := .array .boolean) (fs' := [.int 0, .int 0, .int 0, .ref (ad 67), .ref (ad 68), .int 0, .ref (ad 69), .ref (ad 70), .ref (ad 71), .ref (ad 72), .int 0, .ref (ad 73), .ref (ad 74), .ref (ad 75), .ref (ad 76), .null]) hc 66 14 i5 tyX5 tyX5_ok nmX5 hq166 rfl (by decide) f39 rfl rfl hin rfl (by decide +kernel) rfl rfl (Nat.le_of_ble_eq_true rfl) rfl dX5_init_86 (fun u177 hn' hf' => ?_)
  have hq178 : u177[66]? = some (ad 66, .inr (5, [.int 0, .int 0, .int 0, .ref (ad 67), .ref (ad 68), .int 0, .ref (ad 69), .ref (ad 70), .ref (ad 71), .ref (ad 72), .int 0, .ref (ad 73), .ref (ad 74), .ref (ad 75), .ref (ad 76), .null])) := hn'
  have hq179 := (hf' 67 (by omega)).trans hq167
  have hq180 := (hf' 68 (by omega)).trans hq168
  have hq181 := (hf' 69 (by omega)).trans hq169
  have hq182 := (hf' 70 (by omega)).trans hq170
  have hq183 := (hf' 71 (by omega)).trans hq171
  have hq184 := (hf' 72 (by omega)).trans hq172
  have hq185 := (hf' 73 (by omega)).trans hq173
  have hq186 := (hf' 74 (by omega)).trans hq174
  have hq187 := (hf' 75 (by omega)).trans hq175
  have hq188 := (hf' 76 (by omega)).trans hq164
  have hq189 := (hf' 77 (by omega)).trans hq165
  have fr190 := Fr.one hf'
  refine q_aload_n hc 0 dX5_init_89 rfl ?_
  refine q_sipushN hc 2048 dX5_init_90 (by decide +kernel) ?_
  have hl9 : u177.length = 77 := len_of hq188 hq189 (by omega)
  have ho9 : Lo D u177 s.heap.size _ := Lo.of hq188 (show s.heap.size + (0 + 1 + 1 + 1 + 1 + 1 + 1 + 1 + 1 + 1 + 1) = ad 76 + 1 by have e1 := had 76; omega)
  refine q_newIN (n := 2048) (b := ad 77) hc hl9 ho9 (by have e1 := had 77; omega) (by decide +kernel) (by omega) ⟨by dsimp only; omega, by dsimp only; omega⟩ dX5_init_93 (fun u191 hn' hf' => ?_)
  have hq192 : u191[77]? = some (ad 77, iN K 2048 (fun _ => 0)) := hn'
  have hq193 : u191[78]? = none := (hf' 78 (by omega)).trans (List.getElem?_eq_none (by omega))
  have hq194 := (hf' 66 (by omega)).trans hq178
  have hq195 := (hf' 67 (by omega)).trans hq179
  have hq196 := (hf' 68 (by omega)).trans hq180
  have hq197 := (hf' 69 (by omega)).trans hq181
  have hq198 := (hf' 70 (by omega)).trans hq182
  have hq199 := (hf' 71 (by omega)).trans hq183
  have hq200 := (hf' 72 (by omega)).trans hq184
  have hq201 := (hf' 73 (by omega)).trans hq185
  have hq202 := (hf' 74 (by omega)).trans hq186
  have hq203 := (hf' 75 (by omega)).trans hq187
  have hq204 := (hf' 76 (by omega)).trans hq188
  have fr205 := Fr.one hf'
  refine q_putF (ty := .array .int) (fs' := [.int 0, .int 0, .int 0, .ref (ad 67), .ref (ad 68), .int 0, .ref (ad 69), .ref (ad 70), .ref (ad 71), .ref (ad 72), .int 0, .ref (ad 73), .ref (ad 74), .ref (ad 75), .ref (ad 76), .ref (ad 77)]) hc 66 15 i5 tyX5 tyX5_ok nmX5 hq194 rfl (by decide) f42 rfl rfl hin rfl (by decide +kernel) rfl rfl (Nat.le_of_ble_eq_true rfl) rfl dX5_init_95 (fun u206 hn' hf' => ?_)
  have hq207 : u206[66]? = some (ad 66, .inr (5, [.int 0, .int 0, .int 0, .ref (ad 67), .ref (ad 68), .int 0, .ref (ad 69), .ref (ad 70), .ref (ad 71), .ref (ad 72), .int 0, .ref (ad 73), .ref (ad 74), .ref (ad 75), .ref (ad 76), .ref (ad 77)])) := hn'
  have hq208 := (hf' 67 (by omega)).trans hq195
  have hq209 := (hf' 68 (by omega)).trans hq196
  have hq210 := (hf' 69 (by omega)).trans hq197
  have hq211 := (hf' 70 (by omega)).trans hq198
  have hq212 := (hf' 71 (by omega)).trans hq199
  have hq213 := (hf' 72 (by omega)).trans hq200
  have hq214 := (hf' 73 (by omega)).trans hq201
  have hq215 := (hf' 74 (by omega)).trans hq202
  have hq216 := (hf' 75 (by omega)).trans hq203
  have hq217 := (hf' 76 (by omega)).trans hq204
  have hq218 := (hf' 77 (by omega)).trans hq192
  have hq219 := (hf' 78 (by omega)).trans hq193
  have fr220 := Fr.one hf'
  refine q_aload_n hc 0 dX5_init_98 rfl ?_
  refine V.join (lv' := [(0, .ref (ad 66)), (1, .int (iZ a1)), (2, .int (iZ a2)), (3, .int (iZ a3))]) (pc' := 120) (st' := [.int (iZ ((w : Nat) : Int)), .ref (ad 66)]) ?_ (fun j120 => ?_)
  · refine q_put (ty := .int) (fs' := [.int 0, .int (iZ ((w : Nat) : Int)), .int 0, .ref (ad 67), .ref (ad 68), .int 0, .ref (ad 69), .ref (ad 70), .ref (ad 71), .ref (ad 72), .int 0, .ref (ad 73), .ref (ad 74), .ref (ad 75), .ref (ad 76), .ref (ad 77)]) hc 66 1 i5 tyX5 tyX5_ok nmX5 hq207 rfl (by decide) f45 rfl rfl (by decide +kernel) rfl rfl (Nat.le_of_ble_eq_true rfl) rfl dX5_init_120 (fun u221 hn' hf' => ?_)
    have hq222 : u221[66]? = some (ad 66, .inr (5, [.int 0, .int (iZ ((w : Nat) : Int)), .int 0, .ref (ad 67), .ref (ad 68), .int 0, .ref (ad 69), .ref (ad 70), .ref (ad 71), .ref (ad 72), .int 0, .ref (ad 73), .ref (ad 74), .ref (ad 75), .ref (ad 76), .ref (ad 77)])) := hn'
    have hq223 := (hf' 67 (by omega)).trans hq208
    have hq224 := (hf' 68 (by omega)).trans hq209
    have hq225 := (hf' 69 (by omega)).trans hq210
    have hq226 := (hf' 70 (by omega)).trans hq211
    have hq227 := (hf' 71 (by omega)).trans hq212
    have hq228 := (hf' 72 (by omega)).trans hq213
    have hq229 := (hf' 73 (by omega)).trans hq214
    have hq230 := (hf' 74 (by omega)).trans hq215
    have hq231 := (hf' 75 (by omega)).trans hq216
    have hq232 := (hf' 76 (by omega)).trans hq217
    have hq233 := (hf' 77 (by omega)).trans hq218
    have hq234 := (hf' 78 (by omega)).trans hq219
    have fr235 := Fr.one hf'
    refine q_aload_n hc 0 dX5_init_123 rfl ?_
    refine V.join (lv' := [(0, .ref (ad 66)), (1, .int (iZ a1)), (2, .int (iZ a2)), (3, .int (iZ a3))]) (pc' := 145) (st' := [.int (iZ ((h : Nat) : Int)), .ref (ad 66)]) ?_ (fun j145 => ?_)
    · refine q_put (ty := .int) (fs' := [.int 0, .int (iZ ((w : Nat) : Int)), .int (iZ ((h : Nat) : Int)), .ref (ad 67), .ref (ad 68), .int 0, .ref (ad 69), .ref (ad 70), .ref (ad 71), .ref (ad 72), .int 0, .ref (ad 73), .ref (ad 74), .ref (ad 75), .ref (ad 76), .ref (ad 77)]) hc 66 2 i5 tyX5 tyX5_ok nmX5 hq222 rfl (by decide) f49 rfl rfl (by decide +kernel) rfl rfl (Nat.le_of_ble_eq_true rfl) rfl dX5_init_145 (fun u236 hn' hf' => ?_)
      have hq237 : u236[66]? = some (ad 66, .inr (5, [.int 0, .int (iZ ((w : Nat) : Int)), .int (iZ ((h : Nat) : Int)), .ref (ad 67), .ref (ad 68), .int 0, .ref (ad 69), .ref (ad 70), .ref (ad 71), .ref (ad 72), .int 0, .ref (ad 73), .ref (ad 74), .ref (ad 75), .ref (ad 76), .ref (ad 77)])) := hn'
      have hq238 := (hf' 67 (by omega)).trans hq223
      have hq239 := (hf' 68 (by omega)).trans hq224
      have hq240 := (hf' 69 (by omega)).trans hq225
      have hq241 := (hf' 70 (by omega)).trans hq226
      have hq242 := (hf' 71 (by omega)).trans hq227
      have hq243 := (hf' 72 (by omega)).trans hq228
      have hq244 := (hf' 73 (by omega)).trans hq229
      have hq245 := (hf' 74 (by omega)).trans hq230
      have hq246 := (hf' 75 (by omega)).trans hq231
      have hq247 := (hf' 76 (by omega)).trans hq232
      have hq248 := (hf' 77 (by omega)).trans hq233
      have hq249 := (hf' 78 (by omega)).trans hq234
      have fr250 := Fr.one hf'
      refine V.join (lv' := [(0, .ref (ad 66)), (1, .int (iZ a1)), (2, .int (iZ a2)), (3, .int (iZ a3))]) (pc' := 168) (st' := [.int (iZ ((c0 : Nat) : Int))]) ?_ (fun j168 => ?_)
      · refine q_istore hc [(4, .int (iZ ((c0 : Nat) : Int))), (0, .ref (ad 66)), (1, .int (iZ a1)), (2, .int (iZ a2)), (3, .int (iZ a3))] dX5_init_168 (by decide) rfl ?_
        refine q_iconstN hc 0 dX5_init_170 rfl ?_
        refine q_istore hc [(5, .int (iZ ((0 : Nat) : Int))), (4, .int (iZ ((c0 : Nat) : Int))), (0, .ref (ad 66)), (1, .int (iZ a1)), (2, .int (iZ a2)), (3, .int (iZ a3))] dX5_init_171 (by decide) rfl ?_
        refine V.sub [2, 1, 0] rfl ?_
        refine V.loop (α := Nat × (Nat → Nat)) (fun x => 128 - x.1) (fun x u => (x.1 ≤ 128) ∧ (∀ k, x.2 k = if k < x.1 then c0 else 0) ∧ (u[67]? = some (ad 67, iN K 128 x.2)) ∧ (Fr (fun j => j = 67) u236 u)) (fun x => [(0, .ref (ad 66)), (4, .int (iZ ((c0 : Nat) : Int))), (5, .int (iZ ((x.1 : Nat) : Int)))]) (0, fun _ => 0) ⟨(Nat.zero_le _), (fun k => by simp), (hq238), (Fr.rfl)⟩ rfl ?_
        intro x ih173 u251 hI
        obtain ⟨i, f⟩ := x
        try dsimp only at ih173 hI ⊢
        obtain ⟨hi0, hf, hq252, fr253⟩ := hI
        have hq254 := (fr253.at 66 (by omega)).trans hq237
        have hq255 := (fr253.at 68 (by omega)).trans hq239
        have hq256 := (fr253.at 69 (by omega)).trans hq240
        have hq257 := (fr253.at 70 (by omega)).trans hq241
        have hq258 := (fr253.at 71 (by omega)).trans hq242
        have hq259 := (fr253.at 72 (by omega)).trans hq243
        have hq260 := (fr253.at 73 (by omega)).trans hq244
        have hq261 := (fr253.at 74 (by omega)).trans hq245
        have hq262 := (fr253.at 75 (by omega)).trans hq246
        have hq263 := (fr253.at 76 (by omega)).trans hq247
        have hq264 := (fr253.at 77 (by omega)).trans hq248
        have hq265 := (fr253.at 78 (by omega)).trans hq249
        refine q_iload hc 2 dX5_init_173 rfl ?_
        refine q_sipushN hc 128 dX5_init_175 (by decide +kernel) ?_
        refine q_icmpN_ge hc 196 dX5_init_178 (by decide) (by omega) (by omega) (fun c266 => ?_) (fun c266 => ?_)
        · refine q_norm_iN (g := mA n c0 (fun _ => c0)) hc 67 hq252 (fun k hk => by rw [hf k, if_pos (by omega)]; unfold mA; split <;> rfl) (fun u267 hn' hf' => ?_)
          have hq268 : u267[67]? = some (ad 67, iN K 128 (mA n c0 (fun _ => c0))) := hn'
          have hq269 := (hf' 66 (by omega)).trans hq254
          have hq270 := (hf' 68 (by omega)).trans hq255
          have hq271 := (hf' 69 (by omega)).trans hq256
          have hq272 := (hf' 70 (by omega)).trans hq257
          have hq273 := (hf' 71 (by omega)).trans hq258
          have hq274 := (hf' 72 (by omega)).trans hq259
          have hq275 := (hf' 73 (by omega)).trans hq260
          have hq276 := (hf' 74 (by omega)).trans hq261
          have hq277 := (hf' 75 (by omega)).trans hq262
          have hq278 := (hf' 76 (by omega)).trans hq263
          have hq279 := (hf' 77 (by omega)).trans hq264
          have hq280 := (hf' 78 (by omega)).trans hq265
          have fr281 := Fr.one hf'
          refine q_norm_iN (g := mA n 0 (fun _ => 0)) hc 68 hq270 (fun k hk => by unfold mA; split <;> rfl) (fun u282 hn' hf' => ?_)
          have hq283 : u282[68]? = some (ad 68, iN K 128 (mA n 0 (fun _ => 0))) := hn'
          have hq284 := (hf' 66 (by omega)).trans hq269
          have hq285 := (hf' 67 (by omega)).trans hq268
          have hq286 := (hf' 69 (by omega)).trans hq271
          have hq287 := (hf' 70 (by omega)).trans hq272
          have hq288 := (hf' 71 (by omega)).trans hq273
          have hq289 := (hf' 72 (by omega)).trans hq274
          have hq290 := (hf' 73 (by omega)).trans hq275
          have hq291 := (hf' 74 (by omega)).trans hq276
          have hq292 := (hf' 75 (by omega)).trans hq277
          have hq293 := (hf' 76 (by omega)).trans hq278
          have hq294 := (hf' 77 (by omega)).trans hq279
          have hq295 := (hf' 78 (by omega)).trans hq280
          have fr296 := Fr.one hf'
          refine q_norm_iN (g := mP (fun _ _ => 0)) hc 70 hq287 (fun k hk => rfl) (fun u297 hn' hf' => ?_)
          have hq298 : u297[70]? = some (ad 70, iN K 60 (mP (fun _ _ => 0))) := hn'
          have hq299 := (hf' 66 (by omega)).trans hq284
          have hq300 := (hf' 67 (by omega)).trans hq285
          have hq301 := (hf' 68 (by omega)).trans hq283
          have hq302 := (hf' 69 (by omega)).trans hq286
          have hq303 := (hf' 71 (by omega)).trans hq288
          have hq304 := (hf' 72 (by omega)).trans hq289
          have hq305 := (hf' 73 (by omega)).trans hq290
          have hq306 := (hf' 74 (by omega)).trans hq291
          have hq307 := (hf' 75 (by omega)).trans hq292
          have hq308 := (hf' 76 (by omega)).trans hq293
          have hq309 := (hf' 77 (by omega)).trans hq294
          have hq310 := (hf' 78 (by omega)).trans hq295
          have fr311 := Fr.one hf'
          refine q_norm_zA (g := mHr (fun _ => -1)) hc 71 hq303 (fun k hk => rfl) (fun u312 hn' hf' => ?_)
          have hq313 : u312[71]? = some (ad 71, zA K 12 (mHr (fun _ => -1))) := hn'
          have hq314 := (hf' 66 (by omega)).trans hq299
          have hq315 := (hf' 67 (by omega)).trans hq300
          have hq316 := (hf' 68 (by omega)).trans hq301
          have hq317 := (hf' 69 (by omega)).trans hq302
          have hq318 := (hf' 70 (by omega)).trans hq298
          have hq319 := (hf' 72 (by omega)).trans hq304
          have hq320 := (hf' 73 (by omega)).trans hq305
          have hq321 := (hf' 74 (by omega)).trans hq306
          have hq322 := (hf' 75 (by omega)).trans hq307
          have hq323 := (hf' 76 (by omega)).trans hq308
          have hq324 := (hf' 77 (by omega)).trans hq309
          have hq325 := (hf' 78 (by omega)).trans hq310
          have fr326 := Fr.one hf'
          refine q_norm_zA (g := mRo n (fun _ _ => false)) hc 72 hq319 (fun k hk => by unfold mRo mR; simp) (fun u327 hn' hf' => ?_)
          have hq328 : u327[72]? = some (ad 72, zA K 1536 (mRo n (fun _ _ => false))) := hn'
          have hq329 := (hf' 66 (by omega)).trans hq314
          have hq330 := (hf' 67 (by omega)).trans hq315
          have hq331 := (hf' 68 (by omega)).trans hq316
          have hq332 := (hf' 69 (by omega)).trans hq317
          have hq333 := (hf' 70 (by omega)).trans hq318
          have hq334 := (hf' 71 (by omega)).trans hq313
          have hq335 := (hf' 73 (by omega)).trans hq320
          have hq336 := (hf' 74 (by omega)).trans hq321
          have hq337 := (hf' 75 (by omega)).trans hq322
          have hq338 := (hf' 76 (by omega)).trans hq323
          have hq339 := (hf' 77 (by omega)).trans hq324
          have hq340 := (hf' 78 (by omega)).trans hq325
          have fr341 := Fr.one hf'
          exact q_vretN hc (⟨hq329, hq330, hq331, hq332, hq333, hq334, hq328, hq335, hq336, hq337, hq338, hq339, hq340, ((((((((((((((((((((((((((((((fr0.trans fr5 (fun _ _ => by omega)).trans fr10 (fun _ _ => by omega)).trans fr16 (fun _ _ => by omega)).trans fr22 (fun _ _ => by omega)).trans fr29 (fun _ _ => by omega)).trans fr36 (fun _ _ => by omega)).trans fr44 (fun _ _ => by omega)).trans fr52 (fun _ _ => by omega)).trans fr61 (fun _ _ => by omega)).trans fr70 (fun _ _ => by omega)).trans fr80 (fun _ _ => by omega)).trans fr90 (fun _ _ => by omega)).trans fr101 (fun _ _ => by omega)).trans fr112 (fun _ _ => by omega)).trans fr124 (fun _ _ => by omega)).trans fr136 (fun _ _ => by omega)).trans fr149 (fun _ _ => by omega)).trans fr162 (fun _ _ => by omega)).trans fr176 (fun _ _ => by omega)).trans fr190 (fun _ _ => by omega)).trans fr205 (fun _ _ => by omega)).trans fr220 (fun _ _ => by omega)).trans fr235 (fun _ _ => by omega)).trans fr250 (fun _ _ => by omega)).trans fr253 (fun _ _ => by omega)).trans fr281 (fun _ _ => by omega)).trans fr296 (fun _ _ => by omega)).trans fr311 (fun _ _ => by omega)).trans fr326 (fun _ _ => by omega)).trans fr341 (fun _ _ => by omega))⟩) hr hlk ⟨by omega, by omega⟩ dX5_init_196
        · refine q_aload_n hc 0 dX5_init_181 rfl ?_
          refine q_get hc 66 3 i5 hq254 rfl (by decide) f7 rfl rfl dX5_init_182 ?_
          refine q_iload hc 2 dX5_init_185 rfl ?_
          refine q_iload hc 1 dX5_init_187 rfl ?_
          refine q_iastN (j := i) (x := c0) hc 67 hq252 rfl (by omega) (by omega) dX5_init_189 (fun u342 hn' hf' => ?_)
          have hq343 : u342[67]? = some (ad 67, iN K 128 (va_up f i c0)) := hn'
          have hq344 := (hf' 66 (by omega)).trans hq254
          have hq345 := (hf' 68 (by omega)).trans hq255
          have hq346 := (hf' 69 (by omega)).trans hq256
          have hq347 := (hf' 70 (by omega)).trans hq257
          have hq348 := (hf' 71 (by omega)).trans hq258
          have hq349 := (hf' 72 (by omega)).trans hq259
          have hq350 := (hf' 73 (by omega)).trans hq260
          have hq351 := (hf' 74 (by omega)).trans hq261
          have hq352 := (hf' 75 (by omega)).trans hq262
          have hq353 := (hf' 76 (by omega)).trans hq263
          have hq354 := (hf' 77 (by omega)).trans hq264
          have hq355 := (hf' 78 (by omega)).trans hq265
          have fr356 := Fr.one hf'
          refine q_iincN (q := 2) hc 1 [(5, .int (iZ ((i + 1 : Nat) : Int))), (0, .ref (ad 66)), (4, .int (iZ ((c0 : Nat) : Int)))] dX5_init_190 rfl rfl (by decide) rfl ?_
          refine q_goto hc 173 dX5_init_193 (by decide) ?_
          refine V.sub [1, 2, 0] rfl ?_
          exact ih173 (i + 1, va_up f i c0) _ (by omega) ⟨(by omega), (upd_hf (g := fun _ => c0) (f0 := fun _ => 0) hf), (hq343), ((fr253.trans fr356 (fun _ _ => by omega)))⟩
      · refine q_iload_n hc 3 dX5_init_148 rfl ?_
        refine q_if_ge hc 156 dX5_init_149 (by decide) (by omega) (fun c357 => ?_) (fun c357 => ?_)
        · refine q_iload_n hc 3 dX5_init_156 rfl ?_
          refine q_bipushN hc 20 dX5_init_157 (by decide +kernel) ?_
          refine q_icmp_le hc 167 dX5_init_159 (by decide) (by omega) (by omega) (fun c358 => ?_) (fun c358 => ?_)
          · refine q_iload_n hc 3 dX5_init_167 rfl ?_
            refine V.topi (show _ = ((c0 : Nat) : Int) from by omega) ?_
            exact j168
          · refine q_bipushN hc 20 dX5_init_162 (by decide +kernel) ?_
            refine q_goto hc 168 dX5_init_164 (by decide) ?_
            refine V.topi (show _ = ((c0 : Nat) : Int) from by omega) ?_
            exact j168
        · refine q_iconstN hc 0 dX5_init_152 rfl ?_
          refine q_goto hc 168 dX5_init_153 (by decide) ?_
          refine V.topi (show _ = ((c0 : Nat) : Int) from by omega) ?_
          exact j168
    · refine q_iload_n hc 2 dX5_init_124 rfl ?_
      refine q_iconstN hc 2 dX5_init_125 rfl ?_
      refine q_icmp_ge hc 133 dX5_init_126 (by decide) (by omega) (by omega) (fun c359 => ?_) (fun c359 => ?_)
      · refine q_iload_n hc 2 dX5_init_133 rfl ?_
        refine q_bipushN hc 8 dX5_init_134 (by decide +kernel) ?_
        refine q_icmp_le hc 144 dX5_init_136 (by decide) (by omega) (by omega) (fun c360 => ?_) (fun c360 => ?_)
        · refine q_iload_n hc 2 dX5_init_144 rfl ?_
          refine V.topi (show _ = ((h : Nat) : Int) from by omega) ?_
          exact j145
        · refine q_bipushN hc 8 dX5_init_139 (by decide +kernel) ?_
          refine q_goto hc 145 dX5_init_141 (by decide) ?_
          refine V.topi (show _ = ((h : Nat) : Int) from by omega) ?_
          exact j145
      · refine q_iconstN hc 2 dX5_init_129 rfl ?_
        refine q_goto hc 145 dX5_init_130 (by decide) ?_
        refine V.topi (show _ = ((h : Nat) : Int) from by omega) ?_
        exact j145
  · refine q_iload_n hc 1 dX5_init_99 rfl ?_
    refine q_iconstN hc 2 dX5_init_100 rfl ?_
    refine q_icmp_ge hc 108 dX5_init_101 (by decide) (by omega) (by omega) (fun c361 => ?_) (fun c361 => ?_)
    · refine q_iload_n hc 1 dX5_init_108 rfl ?_
      refine q_bipushN hc 8 dX5_init_109 (by decide +kernel) ?_
      refine q_icmp_le hc 119 dX5_init_111 (by decide) (by omega) (by omega) (fun c362 => ?_) (fun c362 => ?_)
      · refine q_iload_n hc 1 dX5_init_119 rfl ?_
        refine V.topi (show _ = ((w : Nat) : Int) from by omega) ?_
        exact j120
      · refine q_bipushN hc 8 dX5_init_114 (by decide +kernel) ?_
        refine q_goto hc 120 dX5_init_116 (by decide) ?_
        refine V.topi (show _ = ((w : Nat) : Int) from by omega) ?_
        exact j120
    · refine q_iconstN hc 2 dX5_init_104 rfl ?_
      refine q_goto hc 120 dX5_init_105 (by decide) ?_
      refine V.topi (show _ = ((w : Nat) : Int) from by omega) ?_
      exact j120
