set_option maxRecDepth 100000 in
set_option maxHeartbeats 16000000 in
theorem lw_lead {p : Program} {l : Launch} {e : Env} {s : State} {m : MethodId} {below : List Frame} {meth : Method} {c : Code} {b L : Nat} {xs : Nat → Int32} {D : va_G} {K : Nat → ClassId} {ad : Nat → Nat} {w h n c0 : Nat} (hC : LC p l s m c b L xs D K w h n c0) {t : Nat} (ht : 3 + 5 * t + 5 ≤ L) {nc rc : Nat} {cap us hi pn : Nat → Nat} {rl : Nat → Int} {pi : Nat → Nat → Nat} {ro : Nat → Nat → Bool} {ws : va_W} (hF : FW K ad w h n c0 nc rc cap us hi pn rl pi ro ws) (hG : GI n nc rc cap hi pn pi (us, ro, rl) t) (ih : ∀ (nc rc : Nat) (cap us hi pn : Nat → Nat) (rl : Nat → Int) (pi : Nat → Nat → Nat) (ro : Nat → Nat → Bool) (u : va_W), FW K ad w h n c0 nc rc cap us hi pn rl pi ro u → GI n nc rc cap hi pn pi (us, ro, rl) (t + 1) → V p l e room_1 s m #[Value.ref b] below meth c 8 (79 + 2 * (t + 1)) (8194 + 12 * (t + 1)) (lw_Z below #[Value.ref b] s) (hpM D (va_A [] s.heap.size) s.heap) u [(0, .ref b), (1, .ref (ad 0)), (2, .ref (ad 66)), (3, .ref (ad 78)), (4, .int (iZ ((3 + 5 * t : Nat) : Int)))] 1036 []) : V p l e room_1 s m #[Value.ref b] below meth c 8 (79 + 2 * t) (8194 + 12 * t) (lw_Z below #[Value.ref b] s) (hpM D (va_A [] s.heap.size) s.heap) ws [(0, .ref b), (1, .ref (ad 0)), (2, .ref (ad 66)), (3, .ref (ad 78)), (4, .int (iZ ((3 + 5 * t : Nat) : Int)))] 368 [] := by
  obtain ⟨hc, hXE, hX, hbl, hl, hWH, hc0, hL⟩ := hC
  have hbA : ¬ va_A [] s.heap.size b := no_A hbl
  have hF9 := hF; have hG9 := hG
  obtain ⟨th, co, di, tr, rw, mt, md, mk, mq, le, fo, h0, h1, h2, h3, h4, h5, h6, h7, h8, h9, h10, h11, h12, hR, h29, hN, hP, hO, h66, m67, m68, m69, m70, m71, m72, m73, m74, m75, m76, m77, h78, hrw⟩ := hF
  obtain ⟨hnc, hcap, hhb, hpn0, hpin0, hpif0, hRI, hrc⟩ := hG
  have hn := hWH.le; have hw2 := hWH.1; have hxy := hWH.xy; have hNB := NB_W hWH
  have hw : 0 < w ∧ w ≤ 8 ∧ h ≤ 8 := ⟨by omega, by omega, by omega⟩
  have hI := hRI.1; have hUC : UC n nc us ro := hI.1; have hR0 : RO0 n nc ro rl := hI.2.1; have hRL : RLc n nc ro rl := hRI.2.1; have hrl : ∀ j, j < nc → -1 ≤ rl j ∧ rl j ≤ 128 := hI.2.2; have hus : ∀ k, k < 2 * n → us k ≤ 12 := hI.us hnc
  have hhi : ∀ k, k < 2 * n → hi k ≤ 5120 := fun k hk => by have h9 := hhb k hk; omega
  have hpn : ∀ j, j < nc → pn j ≤ 5 := fun j _ => hpn0 j
  have hpin : ∀ j k, j < nc → k < pn j → pi j k < n := fun j k _ hk => hpin0 j k hk
  have hpif : ∀ j k, j < nc → pi j k < 64 := fun j k _ => hpif0 j k
  obtain ⟨a1, ha1, hr1⟩ : ∃ a9 : Int, (xs (3 + 5 * t + 1)).toInt = a9 ∧ (-2147483648 ≤ a9 ∧ a9 < 2147483648) := ⟨_, rfl, iZ_rng _⟩
  obtain ⟨a2, ha2, hr2⟩ : ∃ a9 : Int, (xs (3 + 5 * t + 2)).toInt = a9 ∧ (-2147483648 ≤ a9 ∧ a9 < 2147483648) := ⟨_, rfl, iZ_rng _⟩
  obtain ⟨a3, ha3, hr3⟩ : ∃ a9 : Int, (xs (3 + 5 * t + 3)).toInt = a9 ∧ (-2147483648 ≤ a9 ∧ a9 < 2147483648) := ⟨_, rfl, iZ_rng _⟩
  obtain ⟨a4, ha4, hr4⟩ : ∃ a9 : Int, (xs (3 + 5 * t + 4)).toInt = a9 ∧ (-2147483648 ≤ a9 ∧ a9 < 2147483648) := ⟨_, rfl, iZ_rng _⟩
  refine q_aload_n hc 1 dL_law_368 rfl ?_
  refine q_aload_n hc 0 dL_law_369 rfl ?_
  refine q_iload hc 4 dL_law_370 rfl ?_
  refine q_iconstN hc 1 dL_law_372 rfl ?_
  refine q_iaddN hc dL_law_373 ?_
  refine q_sld (j := 3 + 5 * t + 1) hc hX hbl hbA rfl (by omega) (by omega) dL_law_374 ?_
  refine V.topi (show _ = a1 from ha1) ?_
  refine q_aload_n hc 3 dL_law_375 rfl ?_
  refine q_callLi (As := [.ref (ad 0), .int (iZ a1), .ref (ad 78)]) (rest := []) hc hXE (c_L_lead l hl D K ws ad a1 nc rc w h n cap us hi co di tr (nbW w h) (btW w h) pn rl pi ro fo h0 h1 h2 h3 h4 h5 h6 h7 h8 h9 h10 h29 hN hP hO h78 hn hnc hNB hcap hhi hpn hpin hr1 hI) (vx_cwSW 3 hc.1.2.2.2.2 gL_law_L_lead rfl rfl rfl (by decide +kernel) ⟨Nat.le_of_ble_eq_true rfl, Nat.le_of_ble_eq_true rfl⟩) rfl rfl (by decide) dL_law_376 ⟨(show _ ≤ 601024 by omega), (show _ ≤ 7293000 by omega)⟩ (fun r u hp' => ?_)
  rcases hp' with ⟨x1, x2, x3, hr9, hx4, hx5, hq6, hq7, hq8, hq9, hq10, hq11, hq12, fr13⟩ | ⟨hr9, x0, hw9⟩ | ⟨hr9, x0, x1, hw9⟩
  · subst hr9
    have hq14 := (fr13.at 0 (by omega)).trans h0
    have hq15 := (fr13.at 1 (by omega)).trans h1
    have hq16 := (fr13.at 2 (by omega)).trans h2
    have hq17 := (fr13.at 4 (by omega)).trans h4
    have hq18 := (fr13.at 5 (by omega)).trans h5
    have hq19 := (fr13.at 6 (by omega)).trans h6
    have hq20 := (fr13.at 7 (by omega)).trans h7
    have hq21 := (fr13.at 11 (by omega)).trans h11
    have hq22 := (fr13.at 12 (by omega)).trans h12
    have hq23 := (fr13.at 29 (by omega)).trans h29
    have hq24 := (fr13.at 66 (by omega)).trans h66
    have hq25 := (fr13.at 67 (by omega)).trans m67
    have hq26 := (fr13.at 68 (by omega)).trans m68
    have hq27 := (fr13.at 69 (by omega)).trans m69
    have hq28 := (fr13.at 70 (by omega)).trans m70
    have hq29 := (fr13.at 71 (by omega)).trans m71
    have hq30 := (fr13.at 72 (by omega)).trans m72
    have hq31 := (fr13.at 73 (by omega)).trans m73
    have hq32 := (fr13.at 74 (by omega)).trans m74
    have hq33 := (fr13.at 75 (by omega)).trans m75
    have hq34 := (fr13.at 76 (by omega)).trans m76
    have hq35 := (fr13.at 77 (by omega)).trans m77
    have hq36 : ∀ s, s < 16 → u[13 + s]? = some (ad (13 + s), iN K n (rw s)) := fun s hs => (fr13.at (13 + s) (by omega)).trans (hR s hs)
    have hq37 : ∀ s, s < 12 → u[31 + 3 * s]? = some (ad (31 + 3 * s), iN K 5 (pi s)) := fun s hs => (fr13.at (31 + 3 * s) (by omega)).trans (hP s hs)
    refine q_istore hc [(5, .int (iZ ((0 : Nat) : Int))), (0, .ref b), (1, .ref (ad 0)), (2, .ref (ad 66)), (3, .ref (ad 78)), (4, .int (iZ ((3 + 5 * t : Nat) : Int)))] dL_law_379 (by decide) rfl ?_
    refine q_aload_n hc 3 dL_law_381 rfl ?_
    refine q_aload_n hc 1 dL_law_382 rfl ?_
    refine q_iload hc 5 dL_law_383 rfl ?_
    refine q_iconstN hc 1 dL_law_385 rfl ?_
    refine q_iaddN hc dL_law_386 ?_
    refine q_sld (j := 3 + 5 * t + 1) hc hX hbl hbA rfl (by omega) (by omega) dL_law_387 ?_
    refine V.topi (show _ = a1 from ha1) ?_
    refine q_callMl (As := [.int (iZ a1)]) (rest := []) hc (c_X5_lead l D K u ad a1 w h n th nc rc c0 cap _ hi pn rl pi ro mt mq md mk hq24 hq25 hq26 hq27 hq28 hq29 hq30 hq31 hq32 hq33 hq34 hWH hnc hr1 hUC hc0 hcap hus hhi hpn hpin hx4 hx5) (cwV 1 hc.1.2.2.2.2 gL_law_X5_lead rfl rfl rfl (by decide +kernel) ⟨Nat.le_of_ble_eq_true rfl, Nat.le_of_ble_eq_true rfl⟩) 66 hq24 rfl rfl rfl (by decide) dL_law_388 ⟨(show _ ≤ 601024 by omega), (show _ ≤ 7293000 by omega)⟩ (fun r39 u38 hp' => ?_)
    obtain ⟨x40, x41, x42, x43, hr44, hq45, hq46, hq47, hq48, hq49, hq50, hq51, fr52⟩ := hp'
    have hq53 := (fr52.at 0 (by omega)).trans hq14
    have hq54 := (fr52.at 1 (by omega)).trans hq15
    have hq55 := (fr52.at 2 (by omega)).trans hq16
    have hq56 := (fr52.at 3 (by omega)).trans hq6
    have hq57 := (fr52.at 4 (by omega)).trans hq17
    have hq58 := (fr52.at 5 (by omega)).trans hq18
    have hq59 := (fr52.at 6 (by omega)).trans hq19
    have hq60 := (fr52.at 7 (by omega)).trans hq20
    have hq61 := (fr52.at 8 (by omega)).trans hq7
    have hq62 := (fr52.at 9 (by omega)).trans hq8
    have hq63 := (fr52.at 10 (by omega)).trans hq9
    have hq64 := (fr52.at 11 (by omega)).trans hq21
    have hq65 := (fr52.at 12 (by omega)).trans hq22
    have hq66 := (fr52.at 29 (by omega)).trans hq23
    have hq67 := (fr52.at 67 (by omega)).trans hq25
    have hq68 := (fr52.at 68 (by omega)).trans hq26
    have hq69 := (fr52.at 69 (by omega)).trans hq27
    have hq70 := (fr52.at 70 (by omega)).trans hq28
    have hq71 := (fr52.at 77 (by omega)).trans hq35
    have hq72 := (fr52.at 78 (by omega)).trans hq12
    have hq73 : ∀ s, s < 16 → u38[13 + s]? = some (ad (13 + s), iN K n (rw s)) := fun s hs => (fr52.at (13 + s) (by omega)).trans (hq36 s hs)
    have hq74 : ∀ s, s < 12 → u38[31 + 3 * s]? = some (ad (31 + 3 * s), iN K 5 (pi s)) := fun s hs => (fr52.at (31 + 3 * s) (by omega)).trans (hq37 s hs)
    have hq75 : ∀ s, s < 12 → u38[30 + 3 * s]? = some (ad (30 + 3 * s), nO ad s (pn s) (((ldS (nbW w h) (btW w h) n cap hi pn pi a1.toNat (us, ro, rl)).2.2) s)) := fun s hs => (fr52.at (30 + 3 * s) (by omega)).trans (hq10 s hs)
    have hq76 : ∀ s, s < 12 → u38[32 + 3 * s]? = some (ad (32 + 3 * s), zA K (2 * n) (((ldS (nbW w h) (btW w h) n cap hi pn pi a1.toNat (us, ro, rl)).2.1) s)) := fun s hs => (fr52.at (32 + 3 * s) (by omega)).trans (hq11 s hs)
    subst hr44
    refine q_lstore hc [(6, .long (jZ ((sR n (coF cap (sbU us (ro a1.toNat)) hi) (rtN (nbW w h) (btW w h) n cap hi (pn a1.toNat) (pi a1.toNat) us (ro a1.toNat)) : Nat) : Int))), (5, .int (iZ ((0 : Nat) : Int))), (0, .ref b), (1, .ref (ad 0)), (2, .ref (ad 66)), (3, .ref (ad 78)), (4, .int (iZ ((3 + 5 * t : Nat) : Int)))] dL_law_391 (by decide) rfl ?_
    refine q_aload_n hc 4 dL_law_393 rfl ?_
    refine q_callPn (As := []) (rest := []) hc (c_X5_thrown l D K u38 ad w h 0 nc rc hq45 ) (cwV 0 hc.1.2.2.2.2 gL_law_X5_thrown rfl rfl rfl (by decide +kernel) ⟨Nat.le_of_ble_eq_true rfl, Nat.le_of_ble_eq_true rfl⟩) 66 hq45 rfl rfl rfl (by decide) dL_law_394 ⟨(show _ ≤ 601024 by omega), (show _ ≤ 7293000 by omega)⟩ ?_
    refine q_iload hc 1 dL_law_397 rfl ?_
    refine q_icmpN_eq hc 404 dL_law_399 (by decide) (by omega) (by omega) (fun c79 => ?_) (fun c79 => ?_)
    · refine q_iload hc 1 dL_law_404 rfl ?_
      refine q_if_ne hc 420 dL_law_406 (by decide) (by omega) (fun c80 => ?_) (fun c80 => ?_)
      · exact absurd rfl c80
      · refine q_aload_n hc 5 dL_law_409 rfl ?_
        refine q_iconstN hc 0 dL_law_410 rfl ?_
        refine q_lald (j := 0) hc 78 hq72 rfl (by omega) (by omega) dL_law_411 ?_
        refine V.topj (show _ = ((sm (fun k => if rtN (nbW w h) (btW w h) n cap hi (pn a1.toNat) (pi a1.toNat) us (ro a1.toNat) k = true then coF cap (sbU us (ro a1.toNat)) hi k else 0) (2 * n) : Nat) : Int) from by rw [va_up_self]) ?_
        refine q_lload hc 0 dL_law_412 rfl ?_
        refine q_lcmpE hc dL_law_414 (show jZ (((sm (fun k => if rtN (nbW w h) (btW w h) n cap hi (pn a1.toNat) (pi a1.toNat) us (ro a1.toNat) k = true then coF cap (sbU us (ro a1.toNat)) hi k else 0) (2 * n) : Nat) : Int)) = jZ (((sR n (coF cap (sbU us (ro a1.toNat)) hi) (rtN (nbW w h) (btW w h) n cap hi (pn a1.toNat) (pi a1.toNat) us (ro a1.toNat)) : Nat) : Int)) from rfl) ?_
        refine q_if_eq hc 420 dL_law_415 (by decide) (by omega) (fun c81 => ?_) (fun c81 => ?_)
        · refine q_goto hc 1036 dL_law_420 (by decide) ?_
          refine V.widen (k := 79 + 2 * (t + 1)) (n := 8194 + 12 * (t + 1)) (by omega) (by omega) ?_
          refine V.sub [2, 3, 4, 5, 6] rfl ?_
          exact ih nc rc cap ((ldS (nbW w h) (btW w h) n cap hi pn pi a1.toNat (us, ro, rl)).1) hi pn ((ldS (nbW w h) (btW w h) n cap hi pn pi a1.toNat (us, ro, rl)).2.2) pi ((ldS (nbW w h) (btW w h) n cap hi pn pi a1.toNat (us, ro, rl)).2.1) _ ⟨0, x1, x2, x3, rw, x40, x41, x42, x43, le, va_up fo 0 (((sm (fun k => if rtN (nbW w h) (btW w h) n cap hi (pn a1.toNat) (pi a1.toNat) us (ro a1.toNat) k = true then coF cap (sbU us (ro a1.toNat)) hi k else 0) (2 * n) : Nat) : Int)), hq53, hq54, hq55, hq56, hq57, hq58, hq59, hq60, hq61, hq62, hq63, hq64, hq65, hq73, hq66, hq75, hq74, hq76, hq45, hq67, hq68, hq69, hq70, hq47, hq46, hq48, hq49, hq50, hq51, hq71, hq72, hrw⟩ (hG9.lead hn (by have h9 := hx4; omega))
        · exact absurd rfl c81
    · exact absurd rfl c79
  · subst hw9; subst hr9
    refine q_istore hc [(5, .int (iZ ((1 : Nat) : Int))), (0, .ref b), (1, .ref (ad 0)), (2, .ref (ad 66)), (3, .ref (ad 78)), (4, .int (iZ ((3 + 5 * t : Nat) : Int)))] dL_law_379 (by decide) rfl ?_
    refine q_aload_n hc 3 dL_law_381 rfl ?_
    refine q_aload_n hc 1 dL_law_382 rfl ?_
    refine q_iload hc 5 dL_law_383 rfl ?_
    refine q_iconstN hc 1 dL_law_385 rfl ?_
    refine q_iaddN hc dL_law_386 ?_
    refine q_sld (j := 3 + 5 * t + 1) hc hX hbl hbA rfl (by omega) (by omega) dL_law_387 ?_
    refine V.topi (show _ = a1 from ha1) ?_
    refine q_callMl (As := [.int (iZ a1)]) (rest := []) hc (c_X5_lead_e1 l D K ws ad w h th nc rc a1 h66 hnc hr1 x0) (cwV 1 hc.1.2.2.2.2 gL_law_X5_lead rfl rfl rfl (by decide +kernel) ⟨Nat.le_of_ble_eq_true rfl, Nat.le_of_ble_eq_true rfl⟩) 66 h66 rfl rfl rfl (by decide) dL_law_388 ⟨(show _ ≤ 601024 by omega), (show _ ≤ 7293000 by omega)⟩ (fun r83 u82 hp' => ?_)
    obtain ⟨hr86, hq84, fr85⟩ := hp'
    have hq87 := (fr85.at 0 (by omega)).trans h0
    have hq88 := (fr85.at 1 (by omega)).trans h1
    have hq89 := (fr85.at 2 (by omega)).trans h2
    have hq90 := (fr85.at 3 (by omega)).trans h3
    have hq91 := (fr85.at 4 (by omega)).trans h4
    have hq92 := (fr85.at 5 (by omega)).trans h5
    have hq93 := (fr85.at 6 (by omega)).trans h6
    have hq94 := (fr85.at 7 (by omega)).trans h7
    have hq95 := (fr85.at 8 (by omega)).trans h8
    have hq96 := (fr85.at 9 (by omega)).trans h9
    have hq97 := (fr85.at 10 (by omega)).trans h10
    have hq98 := (fr85.at 11 (by omega)).trans h11
    have hq99 := (fr85.at 12 (by omega)).trans h12
    have hq100 := (fr85.at 29 (by omega)).trans h29
    have hq101 := (fr85.at 67 (by omega)).trans m67
    have hq102 := (fr85.at 68 (by omega)).trans m68
    have hq103 := (fr85.at 69 (by omega)).trans m69
    have hq104 := (fr85.at 70 (by omega)).trans m70
    have hq105 := (fr85.at 71 (by omega)).trans m71
    have hq106 := (fr85.at 72 (by omega)).trans m72
    have hq107 := (fr85.at 73 (by omega)).trans m73
    have hq108 := (fr85.at 74 (by omega)).trans m74
    have hq109 := (fr85.at 75 (by omega)).trans m75
    have hq110 := (fr85.at 76 (by omega)).trans m76
    have hq111 := (fr85.at 77 (by omega)).trans m77
    have hq112 := (fr85.at 78 (by omega)).trans h78
    have hq113 : ∀ s, s < 16 → u82[13 + s]? = some (ad (13 + s), iN K n (rw s)) := fun s hs => (fr85.at (13 + s) (by omega)).trans (hR s hs)
    have hq114 : ∀ s, s < 12 → u82[30 + 3 * s]? = some (ad (30 + 3 * s), nO ad s (pn s) (rl s)) := fun s hs => (fr85.at (30 + 3 * s) (by omega)).trans (hN s hs)
    have hq115 : ∀ s, s < 12 → u82[31 + 3 * s]? = some (ad (31 + 3 * s), iN K 5 (pi s)) := fun s hs => (fr85.at (31 + 3 * s) (by omega)).trans (hP s hs)
    have hq116 : ∀ s, s < 12 → u82[32 + 3 * s]? = some (ad (32 + 3 * s), zA K (2 * n) (ro s)) := fun s hs => (fr85.at (32 + 3 * s) (by omega)).trans (hO s hs)
    subst hr86
    refine q_lstore hc [(6, .long (jZ 0)), (5, .int (iZ ((1 : Nat) : Int))), (0, .ref b), (1, .ref (ad 0)), (2, .ref (ad 66)), (3, .ref (ad 78)), (4, .int (iZ ((3 + 5 * t : Nat) : Int)))] dL_law_391 (by decide) rfl ?_
    refine q_aload_n hc 4 dL_law_393 rfl ?_
    refine q_callPn (As := []) (rest := []) hc (c_X5_thrown l D K u82 ad w h 1 nc rc hq84 ) (cwV 0 hc.1.2.2.2.2 gL_law_X5_thrown rfl rfl rfl (by decide +kernel) ⟨Nat.le_of_ble_eq_true rfl, Nat.le_of_ble_eq_true rfl⟩) 66 hq84 rfl rfl rfl (by decide) dL_law_394 ⟨(show _ ≤ 601024 by omega), (show _ ≤ 7293000 by omega)⟩ ?_
    refine q_iload hc 1 dL_law_397 rfl ?_
    refine q_icmpN_eq hc 404 dL_law_399 (by decide) (by omega) (by omega) (fun c119 => ?_) (fun c119 => ?_)
    · refine q_iload hc 1 dL_law_404 rfl ?_
      refine q_if_ne hc 420 dL_law_406 (by decide) (by omega) (fun c120 => ?_) (fun c120 => ?_)
      · refine q_goto hc 1036 dL_law_420 (by decide) ?_
        refine V.widen (k := 79 + 2 * (t + 1)) (n := 8194 + 12 * (t + 1)) (by omega) (by omega) ?_
        refine V.sub [2, 3, 4, 5, 6] rfl ?_
        exact ih nc rc cap us hi pn rl pi ro _ ⟨1, co, di, tr, rw, mt, md, mk, mq, le, fo, hq87, hq88, hq89, hq90, hq91, hq92, hq93, hq94, hq95, hq96, hq97, hq98, hq99, hq113, hq100, hq114, hq115, hq116, hq84, hq101, hq102, hq103, hq104, hq105, hq106, hq107, hq108, hq109, hq110, hq111, hq112, hrw⟩ (hG9.mono)
      · exact absurd c120 (by decide)
    · exact absurd rfl c119
  · subst hw9; subst hr9
    refine q_istore hc [(5, .int (iZ ((2 : Nat) : Int))), (0, .ref b), (1, .ref (ad 0)), (2, .ref (ad 66)), (3, .ref (ad 78)), (4, .int (iZ ((3 + 5 * t : Nat) : Int)))] dL_law_379 (by decide) rfl ?_
    refine q_aload_n hc 3 dL_law_381 rfl ?_
    refine q_aload_n hc 1 dL_law_382 rfl ?_
    refine q_iload hc 5 dL_law_383 rfl ?_
    refine q_iconstN hc 1 dL_law_385 rfl ?_
    refine q_iaddN hc dL_law_386 ?_
    refine q_sld (j := 3 + 5 * t + 1) hc hX hbl hbA rfl (by omega) (by omega) dL_law_387 ?_
    refine V.topi (show _ = a1 from ha1) ?_
    refine q_callMl (As := [.int (iZ a1)]) (rest := []) hc (c_X5_lead_e2 l D K ws ad w h th nc rc a1 pn h66 m69 hnc hr1 x0 x1) (cwV 1 hc.1.2.2.2.2 gL_law_X5_lead rfl rfl rfl (by decide +kernel) ⟨Nat.le_of_ble_eq_true rfl, Nat.le_of_ble_eq_true rfl⟩) 66 h66 rfl rfl rfl (by decide) dL_law_388 ⟨(show _ ≤ 601024 by omega), (show _ ≤ 7293000 by omega)⟩ (fun r122 u121 hp' => ?_)
    obtain ⟨hr125, hq123, fr124⟩ := hp'
    have hq126 := (fr124.at 0 (by omega)).trans h0
    have hq127 := (fr124.at 1 (by omega)).trans h1
    have hq128 := (fr124.at 2 (by omega)).trans h2
    have hq129 := (fr124.at 3 (by omega)).trans h3
    have hq130 := (fr124.at 4 (by omega)).trans h4
    have hq131 := (fr124.at 5 (by omega)).trans h5
    have hq132 := (fr124.at 6 (by omega)).trans h6
    have hq133 := (fr124.at 7 (by omega)).trans h7
    have hq134 := (fr124.at 8 (by omega)).trans h8
    have hq135 := (fr124.at 9 (by omega)).trans h9
    have hq136 := (fr124.at 10 (by omega)).trans h10
    have hq137 := (fr124.at 11 (by omega)).trans h11
    have hq138 := (fr124.at 12 (by omega)).trans h12
    have hq139 := (fr124.at 29 (by omega)).trans h29
    have hq140 := (fr124.at 67 (by omega)).trans m67
    have hq141 := (fr124.at 68 (by omega)).trans m68
    have hq142 := (fr124.at 69 (by omega)).trans m69
    have hq143 := (fr124.at 70 (by omega)).trans m70
    have hq144 := (fr124.at 71 (by omega)).trans m71
    have hq145 := (fr124.at 72 (by omega)).trans m72
    have hq146 := (fr124.at 73 (by omega)).trans m73
    have hq147 := (fr124.at 74 (by omega)).trans m74
    have hq148 := (fr124.at 75 (by omega)).trans m75
    have hq149 := (fr124.at 76 (by omega)).trans m76
    have hq150 := (fr124.at 77 (by omega)).trans m77
    have hq151 := (fr124.at 78 (by omega)).trans h78
    have hq152 : ∀ s, s < 16 → u121[13 + s]? = some (ad (13 + s), iN K n (rw s)) := fun s hs => (fr124.at (13 + s) (by omega)).trans (hR s hs)
    have hq153 : ∀ s, s < 12 → u121[30 + 3 * s]? = some (ad (30 + 3 * s), nO ad s (pn s) (rl s)) := fun s hs => (fr124.at (30 + 3 * s) (by omega)).trans (hN s hs)
    have hq154 : ∀ s, s < 12 → u121[31 + 3 * s]? = some (ad (31 + 3 * s), iN K 5 (pi s)) := fun s hs => (fr124.at (31 + 3 * s) (by omega)).trans (hP s hs)
    have hq155 : ∀ s, s < 12 → u121[32 + 3 * s]? = some (ad (32 + 3 * s), zA K (2 * n) (ro s)) := fun s hs => (fr124.at (32 + 3 * s) (by omega)).trans (hO s hs)
    subst hr125
    refine q_lstore hc [(6, .long (jZ 0)), (5, .int (iZ ((2 : Nat) : Int))), (0, .ref b), (1, .ref (ad 0)), (2, .ref (ad 66)), (3, .ref (ad 78)), (4, .int (iZ ((3 + 5 * t : Nat) : Int)))] dL_law_391 (by decide) rfl ?_
    refine q_aload_n hc 4 dL_law_393 rfl ?_
    refine q_callPn (As := []) (rest := []) hc (c_X5_thrown l D K u121 ad w h 2 nc rc hq123 ) (cwV 0 hc.1.2.2.2.2 gL_law_X5_thrown rfl rfl rfl (by decide +kernel) ⟨Nat.le_of_ble_eq_true rfl, Nat.le_of_ble_eq_true rfl⟩) 66 hq123 rfl rfl rfl (by decide) dL_law_394 ⟨(show _ ≤ 601024 by omega), (show _ ≤ 7293000 by omega)⟩ ?_
    refine q_iload hc 1 dL_law_397 rfl ?_
    refine q_icmpN_eq hc 404 dL_law_399 (by decide) (by omega) (by omega) (fun c158 => ?_) (fun c158 => ?_)
    · refine q_iload hc 1 dL_law_404 rfl ?_
      refine q_if_ne hc 420 dL_law_406 (by decide) (by omega) (fun c159 => ?_) (fun c159 => ?_)
      · refine q_goto hc 1036 dL_law_420 (by decide) ?_
        refine V.widen (k := 79 + 2 * (t + 1)) (n := 8194 + 12 * (t + 1)) (by omega) (by omega) ?_
        refine V.sub [2, 3, 4, 5, 6] rfl ?_
        exact ih nc rc cap us hi pn rl pi ro _ ⟨2, co, di, tr, rw, mt, md, mk, mq, le, fo, hq126, hq127, hq128, hq129, hq130, hq131, hq132, hq133, hq134, hq135, hq136, hq137, hq138, hq152, hq139, hq153, hq154, hq155, hq123, hq140, hq141, hq142, hq143, hq144, hq145, hq146, hq147, hq148, hq149, hq150, hq151, hrw⟩ (hG9.mono)
      · exact absurd c159 (by decide)
    · exact absurd rfl c158
