set_option maxRecDepth 100000 in
set_option maxHeartbeats 16000000 in
theorem lw_begin {p : Program} {l : Launch} {e : Env} {s : State} {m : MethodId} {below : List Frame} {meth : Method} {c : Code} {b L : Nat} {xs : Nat → Int32} {D : va_G} {K : Nat → ClassId} (hc : Cx p s m #[Value.ref b] c cL_law 8 wsL_law RL D K (hpM D (va_A [] s.heap.size) s.heap)) (hXE : XE (va_A [] s.heap.size) s s.heap) (hX : va_X b L xs s s.heap) (hbl : b < s.heap.size) (hl : l.stackTraces = false) (hL : L ≤ 2563) (hAO : AOs s) (hr : meth.sig.returnType = ret) (hlk : meth.locks = false) {ws : va_W} (hws : ws.length = 0) : V p l e room_1 s m #[Value.ref b] below meth c 8 0 0 (lw_Z below #[Value.ref b] s) (hpM D (va_A [] s.heap.size) s.heap) ws [(0, .ref b)] 0 [] := by
  have i4 := inlX4
  have i5 := inlX5
  have hbA : ¬ va_A [] s.heap.size b := no_A hbl
  obtain ⟨s0, hsz⟩ : ∃ s0, s.heap.size = s0 := ⟨_, rfl⟩
  obtain ⟨ad, had⟩ : ∃ ad : Nat → Nat, ∀ k, ad k = s0 + k := ⟨fun k => s0 + k, fun _ => rfl⟩
  obtain ⟨a1, ha1, hr1⟩ : ∃ a9 : Int, ceV xs L 0 = a9 ∧ (-2147483648 ≤ a9 ∧ a9 < 2147483648) := ⟨_, rfl, ceV_r _ _ _⟩
  obtain ⟨a2, ha2, hr2⟩ : ∃ a9 : Int, ceV xs L 1 = a9 ∧ (-2147483648 ≤ a9 ∧ a9 < 2147483648) := ⟨_, rfl, ceV_r _ _ _⟩
  obtain ⟨a3, ha3, hr3⟩ : ∃ a9 : Int, ceV xs L 2 = a9 ∧ (-2147483648 ≤ a9 ∧ a9 < 2147483648) := ⟨_, rfl, ceV_r _ _ _⟩
  obtain ⟨w, hw9⟩ : ∃ v9 : Nat, nrZ a1 2 8 = ((v9 : Nat) : Int) := ⟨(nrZ a1 2 8).toNat, by unfold nrZ; split <;> (try split) <;> omega⟩
  have hw9b : 2 ≤ w ∧ w ≤ 8 := by
    have h9 := hw9
    unfold nrZ at h9
    split at h9 <;> (try split at h9) <;> omega
  obtain ⟨h, hh9⟩ : ∃ v9 : Nat, nrZ a2 2 8 = ((v9 : Nat) : Int) := ⟨(nrZ a2 2 8).toNat, by unfold nrZ; split <;> (try split) <;> omega⟩
  have hh9b : 2 ≤ h ∧ h ≤ 8 := by
    have h9 := hh9
    unfold nrZ at h9
    split at h9 <;> (try split at h9) <;> omega
  obtain ⟨c0, hc9⟩ : ∃ v9 : Nat, nrZ a3 0 20 = ((v9 : Nat) : Int) := ⟨(nrZ a3 0 20).toNat, by unfold nrZ; split <;> (try split) <;> omega⟩
  have hc9b : 0 ≤ c0 ∧ c0 ≤ 20 := by
    have h9 := hc9
    unfold nrZ at h9
    split at h9 <;> (try split at h9) <;> omega
  obtain ⟨n, hnw⟩ : ∃ n, n = w * h := ⟨_, rfl⟩
  have hw2 : 2 ≤ w ∧ w ≤ 8 ∧ 2 ≤ h ∧ h ≤ 8 := ⟨hw9b.1, hw9b.2, hh9b.1, hh9b.2⟩
  have hWH : WH w h n := ⟨hw2, hnw⟩
  have hn := hWH.le
  have hc0 : c0 ≤ 20 := hc9b.2
  have hn0 : 0 < n := by rw [hnw]; exact Nat.mul_pos (by omega) (by omega)
  have hC : LC p l s m c b L xs D K w h n c0 := ⟨hc, hXE, hX, hbl, hl, hWH, hc0, hL⟩
  have hl9 : ws.length = 0 := hws
  have ho9 : Lo D ws s.heap.size 0 := fun H _ h9 => h9
  refine q_newO (ci := 4) (fs := [.null, .null, .null, .null, .int 0, .int 0]) (b := ad 0) hc hl9 ho9 (by have e1 := had 0; omega) i4 tyX4 tyX4_ok (by decide +kernel) (by decide +kernel) (by decide +kernel) rfl (by decide +kernel) ⟨(show _ ≤ 601024 by omega), (show _ ≤ 7293000 by omega)⟩ dL_law_0 (fun u1 hn' hf' => ?_)
  have hq2 : u1[0]? = some (ad 0, .inr (4, [.null, .null, .null, .null, .int 0, .int 0])) := hn'
  have hq3 : u1[1]? = none := (hf' 1 (by omega)).trans (List.getElem?_eq_none (by omega))
  refine q_dup hc dL_law_3 rfl ?_
  refine q_aload_n hc 0 dL_law_4 rfl ?_
  refine q_iconstN hc 0 dL_law_5 rfl ?_
  refine q_callS (As := [.ref b, .int (iZ ((0 : Nat) : Int))]) (rest := [.ref (ad 0), .ref (ad 0)]) hc hX hbl hbA (c_L_cell l b L xs 0 (by omega) hL) (va_cwS 2 hc.1.2.2.2.2 gL_law_L_cell rfl rfl rfl (by decide +kernel) ⟨Nat.le_of_ble_eq_true rfl, Nat.le_of_ble_eq_true rfl⟩) rfl rfl (by simp [Value.category]) dL_law_6 ⟨(show _ ≤ 601024 by omega), (show _ ≤ 7293000 by omega)⟩ ?_
  refine V.topi (show _ = a1 from ha1) ?_
  refine q_aload_n hc 0 dL_law_9 rfl ?_
  refine q_iconstN hc 1 dL_law_10 rfl ?_
  refine q_callS (As := [.ref b, .int (iZ ((1 : Nat) : Int))]) (rest := [.int (iZ a1), .ref (ad 0), .ref (ad 0)]) hc hX hbl hbA (c_L_cell l b L xs 1 (by omega) hL) (va_cwS 2 hc.1.2.2.2.2 gL_law_L_cell rfl rfl rfl (by decide +kernel) ⟨Nat.le_of_ble_eq_true rfl, Nat.le_of_ble_eq_true rfl⟩) rfl rfl (by simp [Value.category]) dL_law_11 ⟨(show _ ≤ 601024 by omega), (show _ ≤ 7293000 by omega)⟩ ?_
  refine V.topi (show _ = a2 from ha2) ?_
  refine q_aload_n hc 0 dL_law_14 rfl ?_
  refine q_iconstN hc 2 dL_law_15 rfl ?_
  refine q_callS (As := [.ref b, .int (iZ ((2 : Nat) : Int))]) (rest := [.int (iZ a2), .int (iZ a1), .ref (ad 0), .ref (ad 0)]) hc hX hbl hbA (c_L_cell l b L xs 2 (by omega) hL) (va_cwS 2 hc.1.2.2.2.2 gL_law_L_cell rfl rfl rfl (by decide +kernel) ⟨Nat.le_of_ble_eq_true rfl, Nat.le_of_ble_eq_true rfl⟩) rfl rfl (by simp [Value.category]) dL_law_16 ⟨(show _ ≤ 601024 by omega), (show _ ≤ 7293000 by omega)⟩ ?_
  refine V.topi (show _ = a3 from ha3) ?_
  have hl9 : u1.length = 1 := len_of hq2 hq3 (by omega)
  have ho9 : Lo D u1 s.heap.size _ := Lo.of hq2 (show s.heap.size + (0 + 1) = ad 0 + 1 by have e1 := had 0; omega)
  refine q_callN (As := [.int (iZ a1), .int (iZ a2), .int (iZ a3)]) (rest := [.ref (ad 0)]) hc hAO (c_X4_init l D K u1 ad s0 had a1 a2 a3 w h n c0 hq2 hq3 hr1 hr2 hr3 hn hw2 hnw hc0 hw9 hh9 hc9) (cwI 3 hc.1.2.2.2.2 gL_law_X4_init rfl rfl rfl (hc.1.2.2.2.2 _ (by decide +kernel)) (hc.1.2.2.2.2 _ (by decide +kernel)) (hc.1.2.2.2.2 _ (by decide +kernel)) rfl (by decide +kernel) ⟨Nat.le_of_ble_eq_true rfl, Nat.le_of_ble_eq_true rfl⟩) ho9 (by omega) rfl rfl (by simp [Value.category]) dL_law_19 ⟨(show _ ≤ 601024 by omega), (show _ ≤ 7293000 by omega)⟩ (fun u4 hp' => ?_)
  obtain ⟨hq5, hq6, hq7, hq8, hq9, hq10, hq11, hq12, hq13, hq14, hq15, hq16, hq17, hq18, hq19, hq20, hq21, hq22, hq23, fr24⟩ := hp'
  have hq25 : u4[28]? = some (ad 28, iN K n ((fun _ _ => 0) 15)) := hq18 15 (by omega)
  refine q_astore_n hc [(1, .ref (ad 0)), (0, .ref b)] dL_law_22 rfl (by decide) rfl ?_
  have hq26 : u4[65]? = some (ad 65, zA K (2 * n) ((fun _ _ => false) 11)) := hq22 11 (by omega)
  have hl9 : u4.length = 66 := len_of hq26 hq23 (by omega)
  have ho9 : Lo D u4 s.heap.size _ := Lo.of hq26 (show s.heap.size + (0 + 1 + 65) = ad 65 + 1 by have e1 := had 65; omega)
  refine q_newO (ci := 5) (fs := [.int 0, .int 0, .int 0, .null, .null, .int 0, .null, .null, .null, .null, .int 0, .null, .null, .null, .null, .null]) (b := ad 66) hc hl9 ho9 (by have e1 := had 66; omega) i5 tyX5 tyX5_ok (by decide +kernel) (by decide +kernel) (by decide +kernel) rfl (by decide +kernel) ⟨(show _ ≤ 601024 by omega), (show _ ≤ 7293000 by omega)⟩ dL_law_23 (fun u27 hn' hf' => ?_)
  have hq28 : u27[66]? = some (ad 66, .inr (5, [.int 0, .int 0, .int 0, .null, .null, .int 0, .null, .null, .null, .null, .int 0, .null, .null, .null, .null, .null])) := hn'
  have hq29 : u27[67]? = none := (hf' 67 (by omega)).trans (List.getElem?_eq_none (by omega))
  have hq30 := (hf' 0 (by omega)).trans hq5
  have hq31 := (hf' 1 (by omega)).trans hq6
  have hq32 := (hf' 2 (by omega)).trans hq7
  have hq33 := (hf' 3 (by omega)).trans hq8
  have hq34 := (hf' 4 (by omega)).trans hq9
  have hq35 := (hf' 5 (by omega)).trans hq10
  have hq36 := (hf' 6 (by omega)).trans hq11
  have hq37 := (hf' 7 (by omega)).trans hq12
  have hq38 := (hf' 8 (by omega)).trans hq13
  have hq39 := (hf' 9 (by omega)).trans hq14
  have hq40 := (hf' 10 (by omega)).trans hq15
  have hq41 := (hf' 11 (by omega)).trans hq16
  have hq42 := (hf' 12 (by omega)).trans hq17
  have hq43 := (hf' 29 (by omega)).trans hq19
  have hq44 := (hf' 28 (by omega)).trans hq25
  have hq45 : ∀ s, s < 16 → u27[13 + s]? = some (ad (13 + s), iN K n ((fun _ _ => 0) s)) := fun s hs => (hf' (13 + s) (by omega)).trans (hq18 s hs)
  have hq46 : ∀ s, s < 12 → u27[30 + 3 * s]? = some (ad (30 + 3 * s), nO ad s ((fun _ => 0) s) ((fun _ => -1) s)) := fun s hs => (hf' (30 + 3 * s) (by omega)).trans (hq20 s hs)
  have hq47 : ∀ s, s < 12 → u27[31 + 3 * s]? = some (ad (31 + 3 * s), iN K 5 ((fun _ _ => 0) s)) := fun s hs => (hf' (31 + 3 * s) (by omega)).trans (hq21 s hs)
  have hq48 : ∀ s, s < 12 → u27[32 + 3 * s]? = some (ad (32 + 3 * s), zA K (2 * n) ((fun _ _ => false) s)) := fun s hs => (hf' (32 + 3 * s) (by omega)).trans (hq22 s hs)
  have fr49 := Fr.one hf'
  refine q_dup hc dL_law_26 rfl ?_
  refine q_aload_n hc 1 dL_law_27 rfl ?_
  refine q_iconstN hc 0 dL_law_28 rfl ?_
  refine q_callS (As := [.ref b, .int (iZ ((0 : Nat) : Int))]) (rest := [.ref (ad 66), .ref (ad 66)]) hc hX hbl hbA (c_L_cell l b L xs 0 (by omega) hL) (va_cwS 2 hc.1.2.2.2.2 gL_law_L_cell rfl rfl rfl (by decide +kernel) ⟨Nat.le_of_ble_eq_true rfl, Nat.le_of_ble_eq_true rfl⟩) rfl rfl (by simp [Value.category]) dL_law_29 ⟨(show _ ≤ 601024 by omega), (show _ ≤ 7293000 by omega)⟩ ?_
  refine V.topi (show _ = a1 from ha1) ?_
  refine q_aload_n hc 1 dL_law_32 rfl ?_
  refine q_iconstN hc 1 dL_law_33 rfl ?_
  refine q_callS (As := [.ref b, .int (iZ ((1 : Nat) : Int))]) (rest := [.int (iZ a1), .ref (ad 66), .ref (ad 66)]) hc hX hbl hbA (c_L_cell l b L xs 1 (by omega) hL) (va_cwS 2 hc.1.2.2.2.2 gL_law_L_cell rfl rfl rfl (by decide +kernel) ⟨Nat.le_of_ble_eq_true rfl, Nat.le_of_ble_eq_true rfl⟩) rfl rfl (by simp [Value.category]) dL_law_34 ⟨(show _ ≤ 601024 by omega), (show _ ≤ 7293000 by omega)⟩ ?_
  refine V.topi (show _ = a2 from ha2) ?_
  refine q_aload_n hc 1 dL_law_37 rfl ?_
  refine q_iconstN hc 2 dL_law_38 rfl ?_
  refine q_callS (As := [.ref b, .int (iZ ((2 : Nat) : Int))]) (rest := [.int (iZ a2), .int (iZ a1), .ref (ad 66), .ref (ad 66)]) hc hX hbl hbA (c_L_cell l b L xs 2 (by omega) hL) (va_cwS 2 hc.1.2.2.2.2 gL_law_L_cell rfl rfl rfl (by decide +kernel) ⟨Nat.le_of_ble_eq_true rfl, Nat.le_of_ble_eq_true rfl⟩) rfl rfl (by simp [Value.category]) dL_law_39 ⟨(show _ ≤ 601024 by omega), (show _ ≤ 7293000 by omega)⟩ ?_
  refine V.topi (show _ = a3 from ha3) ?_
  have hl9 : u27.length = 67 := len_of hq28 hq29 (by omega)
  have ho9 : Lo D u27 s.heap.size _ := Lo.of hq28 (show s.heap.size + (0 + 1 + 65 + 1) = ad 66 + 1 by have e1 := had 66; omega)
  refine q_callN (As := [.int (iZ a1), .int (iZ a2), .int (iZ a3)]) (rest := [.ref (ad 66)]) hc hAO (c_X5_init l D K u27 ad s0 had a1 a2 a3 w h n c0 hq28 hq29 hr1 hr2 hr3 hw9 hh9 hc9) (cwI 3 hc.1.2.2.2.2 gL_law_X5_init rfl rfl rfl (hc.1.2.2.2.2 _ (by decide +kernel)) (hc.1.2.2.2.2 _ (by decide +kernel)) (hc.1.2.2.2.2 _ (by decide +kernel)) rfl (by decide +kernel) ⟨Nat.le_of_ble_eq_true rfl, Nat.le_of_ble_eq_true rfl⟩) ho9 (by omega) rfl rfl (by simp [Value.category]) dL_law_42 ⟨(show _ ≤ 601024 by omega), (show _ ≤ 7293000 by omega)⟩ (fun u50 hp' => ?_)
  obtain ⟨hq51, hq52, hq53, hq54, hq55, hq56, hq57, hq58, hq59, hq60, hq61, hq62, hq63, fr64⟩ := hp'
  have hq65 := (fr64.at 0 (by omega)).trans hq30
  have hq66 := (fr64.at 1 (by omega)).trans hq31
  have hq67 := (fr64.at 2 (by omega)).trans hq32
  have hq68 := (fr64.at 3 (by omega)).trans hq33
  have hq69 := (fr64.at 4 (by omega)).trans hq34
  have hq70 := (fr64.at 5 (by omega)).trans hq35
  have hq71 := (fr64.at 6 (by omega)).trans hq36
  have hq72 := (fr64.at 7 (by omega)).trans hq37
  have hq73 := (fr64.at 8 (by omega)).trans hq38
  have hq74 := (fr64.at 9 (by omega)).trans hq39
  have hq75 := (fr64.at 10 (by omega)).trans hq40
  have hq76 := (fr64.at 11 (by omega)).trans hq41
  have hq77 := (fr64.at 12 (by omega)).trans hq42
  have hq78 := (fr64.at 29 (by omega)).trans hq43
  have hq79 := (fr64.at 28 (by omega)).trans hq44
  have hq80 : ∀ s, s < 16 → u50[13 + s]? = some (ad (13 + s), iN K n ((fun _ _ => 0) s)) := fun s hs => (fr64.at (13 + s) (by omega)).trans (hq45 s hs)
  have hq81 : ∀ s, s < 12 → u50[30 + 3 * s]? = some (ad (30 + 3 * s), nO ad s ((fun _ => 0) s) ((fun _ => -1) s)) := fun s hs => (fr64.at (30 + 3 * s) (by omega)).trans (hq46 s hs)
  have hq82 : ∀ s, s < 12 → u50[31 + 3 * s]? = some (ad (31 + 3 * s), iN K 5 ((fun _ _ => 0) s)) := fun s hs => (fr64.at (31 + 3 * s) (by omega)).trans (hq47 s hs)
  have hq83 : ∀ s, s < 12 → u50[32 + 3 * s]? = some (ad (32 + 3 * s), zA K (2 * n) ((fun _ _ => false) s)) := fun s hs => (fr64.at (32 + 3 * s) (by omega)).trans (hq48 s hs)
  refine q_astore_n hc [(2, .ref (ad 66)), (1, .ref (ad 0)), (0, .ref b)] dL_law_45 rfl (by decide) rfl ?_
  refine q_iconstN hc 1 dL_law_46 rfl ?_
  have hl9 : u50.length = 78 := len_of hq62 hq63 (by omega)
  have ho9 : Lo D u50 s.heap.size _ := Lo.of hq62 (show s.heap.size + (0 + 1 + 65 + 1 + 11) = ad 77 + 1 by have e1 := had 77; omega)
  refine q_newJ (n := 1) (b := ad 78) hc hl9 ho9 (by have e1 := had 78; omega) (by decide +kernel) (by omega) ⟨(show _ ≤ 601024 by omega), (show _ ≤ 7293000 by omega)⟩ dL_law_47 (fun u84 hn' hf' => ?_)
  have hq85 : u84[78]? = some (ad 78, jA K 1 (fun _ => 0)) := hn'
  have hq86 : u84[79]? = none := (hf' 79 (by omega)).trans (List.getElem?_eq_none (by omega))
  have hq87 := (hf' 0 (by omega)).trans hq65
  have hq88 := (hf' 1 (by omega)).trans hq66
  have hq89 := (hf' 2 (by omega)).trans hq67
  have hq90 := (hf' 3 (by omega)).trans hq68
  have hq91 := (hf' 4 (by omega)).trans hq69
  have hq92 := (hf' 5 (by omega)).trans hq70
  have hq93 := (hf' 6 (by omega)).trans hq71
  have hq94 := (hf' 7 (by omega)).trans hq72
  have hq95 := (hf' 8 (by omega)).trans hq73
  have hq96 := (hf' 9 (by omega)).trans hq74
  have hq97 := (hf' 10 (by omega)).trans hq75
  have hq98 := (hf' 11 (by omega)).trans hq76
  have hq99 := (hf' 12 (by omega)).trans hq77
  have hq100 := (hf' 29 (by omega)).trans hq78
  have hq101 := (hf' 28 (by omega)).trans hq79
  have hq102 := (hf' 66 (by omega)).trans hq51
  have hq103 := (hf' 67 (by omega)).trans hq52
  have hq104 := (hf' 68 (by omega)).trans hq53
  have hq105 := (hf' 69 (by omega)).trans hq54
  have hq106 := (hf' 70 (by omega)).trans hq55
  have hq107 := (hf' 71 (by omega)).trans hq56
  have hq108 := (hf' 72 (by omega)).trans hq57
  have hq109 := (hf' 73 (by omega)).trans hq58
  have hq110 := (hf' 74 (by omega)).trans hq59
  have hq111 := (hf' 75 (by omega)).trans hq60
  have hq112 := (hf' 76 (by omega)).trans hq61
  have hq113 := (hf' 77 (by omega)).trans hq62
  have hq114 : ∀ s, s < 16 → u84[13 + s]? = some (ad (13 + s), iN K n ((fun _ _ => 0) s)) := fun s hs => (hf' (13 + s) (by omega)).trans (hq80 s hs)
  have hq115 : ∀ s, s < 12 → u84[30 + 3 * s]? = some (ad (30 + 3 * s), nO ad s ((fun _ => 0) s) ((fun _ => -1) s)) := fun s hs => (hf' (30 + 3 * s) (by omega)).trans (hq81 s hs)
  have hq116 : ∀ s, s < 12 → u84[31 + 3 * s]? = some (ad (31 + 3 * s), iN K 5 ((fun _ _ => 0) s)) := fun s hs => (hf' (31 + 3 * s) (by omega)).trans (hq82 s hs)
  have hq117 : ∀ s, s < 12 → u84[32 + 3 * s]? = some (ad (32 + 3 * s), zA K (2 * n) ((fun _ _ => false) s)) := fun s hs => (hf' (32 + 3 * s) (by omega)).trans (hq83 s hs)
  have fr118 := Fr.one hf'
  refine q_astore_n hc [(3, .ref (ad 78)), (2, .ref (ad 66)), (1, .ref (ad 0)), (0, .ref b)] dL_law_49 rfl (by decide) rfl ?_
  refine q_iconstN hc 3 dL_law_50 rfl ?_
  refine q_istore hc [(4, .int (iZ ((3 : Nat) : Int))), (3, .ref (ad 78)), (2, .ref (ad 66)), (1, .ref (ad 0)), (0, .ref b)] dL_law_51 (by decide) rfl ?_
  refine V.sub [4, 3, 2, 1, 0] rfl ?_
  refine V.cs (k := 79 + 2 * 0) (n := 8194 + 12 * 0) rfl rfl ?_
  exact lw_loop hC hr hlk L 0 0 0 (fun _ => c0) (fun _ => 0) (fun _ => 0) (fun _ => 0) (fun _ => -1) (fun _ _ => 0) (fun _ _ => false) _ (by omega) (by omega) ⟨0, (fun _ => 0), (fun _ => 0), (fun _ => false), (fun _ _ => 0), (fun _ => false), (fun _ => 0), (fun _ => 0), (fun _ => false), (fun _ => 0), (fun _ => 0), hq87, hq88, hq89, hq90, hq91, hq92, hq93, hq94, hq95, hq96, hq97, hq98, hq99, hq114, hq100, hq115, hq116, hq117, hq102, hq103, hq104, hq105, hq106, hq107, hq108, hq109, hq110, hq111, hq112, hq113, hq85, fun _ _ => Nat.zero_le _⟩ (GI.start hc0 hn0)
