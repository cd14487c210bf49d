set_option maxRecDepth 100000 in
set_option maxHeartbeats 16000000 in
theorem lw_run {p : Program} {l : Launch} {e : Env} {s : State} {m : MethodId} {below : List Frame} {meth : Method} {c : Code} {b L : Nat} {xs : Nat → Int32} {D : va_G} {K : Nat → ClassId} {ad : Nat → Nat} {w h n c0 : Nat} (hC : LC p l s m c b L xs D K w h n c0) {t : Nat} (ht : 3 + 5 * t + 5 ≤ L) {nc rc : Nat} {cap us hi pn : Nat → Nat} {rl : Nat → Int} {pi : Nat → Nat → Nat} {ro : Nat → Nat → Bool} {ws : va_W} (hF : FW K ad w h n c0 nc rc cap us hi pn rl pi ro ws) (hG : GI n nc rc cap hi pn pi (us, ro, rl) t) (ih : ∀ (nc rc : Nat) (cap us hi pn : Nat → Nat) (rl : Nat → Int) (pi : Nat → Nat → Nat) (ro : Nat → Nat → Bool) (u : va_W), FW K ad w h n c0 nc rc cap us hi pn rl pi ro u → GI n nc rc cap hi pn pi (us, ro, rl) (t + 1) → V p l e room_1 s m #[Value.ref b] below meth c 8 (79 + 2 * (t + 1)) (8194 + 12 * (t + 1)) (lw_Z below #[Value.ref b] s) (hpM D (va_A [] s.heap.size) s.heap) u [(0, .ref b), (1, .ref (ad 0)), (2, .ref (ad 66)), (3, .ref (ad 78)), (4, .int (iZ ((3 + 5 * t : Nat) : Int)))] 1036 []) : V p l e room_1 s m #[Value.ref b] below meth c 8 (79 + 2 * t) (8194 + 12 * t) (lw_Z below #[Value.ref b] s) (hpM D (va_A [] s.heap.size) s.heap) ws [(0, .ref b), (1, .ref (ad 0)), (2, .ref (ad 66)), (3, .ref (ad 78)), (4, .int (iZ ((3 + 5 * t : Nat) : Int)))] 479 [] := by
  obtain ⟨hc, hXE, hX, hbl, hl, hWH, hc0, hL⟩ := hC
  have hbA : ¬ va_A [] s.heap.size b := no_A hbl
  have hF9 := hF; have hG9 := hG
  obtain ⟨th, co, di, tr, rw, mt, md, mk, mq, le, fo, h0, h1, h2, h3, h4, h5, h6, h7, h8, h9, h10, h11, h12, hR, h29, hN, hP, hO, h66, m67, m68, m69, m70, m71, m72, m73, m74, m75, m76, m77, h78, hrw⟩ := hF
  obtain ⟨hnc, hcap, hhb, hpn0, hpin0, hpif0, hRI, hrc⟩ := hG
  have hn := hWH.le; have hw2 := hWH.1; have hxy := hWH.xy; have hNB := NB_W hWH
  have hw : 0 < w ∧ w ≤ 8 ∧ h ≤ 8 := ⟨by omega, by omega, by omega⟩
  have hI := hRI.1; have hUC : UC n nc us ro := hI.1; have hR0 : RO0 n nc ro rl := hI.2.1; have hRL : RLc n nc ro rl := hRI.2.1; have hrl : ∀ j, j < nc → -1 ≤ rl j ∧ rl j ≤ 128 := hI.2.2; have hus : ∀ k, k < 2 * n → us k ≤ 12 := hI.us hnc
  have hhi : ∀ k, k < 2 * n → hi k ≤ 5120 := fun k hk => by have h9 := hhb k hk; omega
  have hpn : ∀ j, j < nc → pn j ≤ 5 := fun j _ => hpn0 j
  have hpin : ∀ j k, j < nc → k < pn j → pi j k < n := fun j k _ hk => hpin0 j k hk
  have hpif : ∀ j k, j < nc → pi j k < 64 := fun j k _ => hpif0 j k
  obtain ⟨a1, ha1, hr1⟩ : ∃ a9 : Int, (xs (3 + 5 * t + 1)).toInt = a9 ∧ (-2147483648 ≤ a9 ∧ a9 < 2147483648) := ⟨_, rfl, iZ_rng _⟩
  obtain ⟨a2, ha2, hr2⟩ : ∃ a9 : Int, (xs (3 + 5 * t + 2)).toInt = a9 ∧ (-2147483648 ≤ a9 ∧ a9 < 2147483648) := ⟨_, rfl, iZ_rng _⟩
  obtain ⟨a3, ha3, hr3⟩ : ∃ a9 : Int, (xs (3 + 5 * t + 3)).toInt = a9 ∧ (-2147483648 ≤ a9 ∧ a9 < 2147483648) := ⟨_, rfl, iZ_rng _⟩
  obtain ⟨a4, ha4, hr4⟩ : ∃ a9 : Int, (xs (3 + 5 * t + 4)).toInt = a9 ∧ (-2147483648 ≤ a9 ∧ a9 < 2147483648) := ⟨_, rfl, iZ_rng _⟩
  refine q_aload_n hc 1 dL_law_479 rfl ?_
  refine q_aload_n hc 0 dL_law_480 rfl ?_
  refine q_iload hc 4 dL_law_481 rfl ?_
  refine q_iconstN hc 1 dL_law_483 rfl ?_
  refine q_iaddN hc dL_law_484 ?_
  refine q_sld (j := 3 + 5 * t + 1) hc hX hbl hbA rfl (by omega) (by omega) dL_law_485 ?_
  refine V.topi (show _ = a1 from ha1) ?_
  refine q_aload_n hc 3 dL_law_486 rfl ?_
  refine q_callLi (As := [.ref (ad 0), .int (iZ a1), .ref (ad 78)]) (rest := []) hc hXE (c_L_run l hl D K ws ad a1 (10 * t) nc rc w h n cap us hi co di tr (nbW w h) (btW w h) pn rl pi ro fo h0 h1 h2 h3 h4 h5 h6 h7 h8 h9 h10 h29 hN hP hO h78 hn hnc hNB hcap hpn hpin hhb (by omega) hr1 (by omega) hI) (vx_cwSW 3 hc.1.2.2.2.2 gL_law_L_run rfl rfl rfl (by decide +kernel) ⟨Nat.le_of_ble_eq_true rfl, Nat.le_of_ble_eq_true rfl⟩) rfl rfl (by decide) dL_law_487 ⟨(show _ ≤ 601024 by omega), (show _ ≤ 7293000 by omega)⟩ (fun r u hp' => ?_)
  rcases hp' with ⟨x1, x2, x3, hr9, hx4, hq5, hq6, hq7, hq8, hq9, hq10, hq11, hq12, hq13, fr14⟩ | ⟨hr9, x0, hw9⟩
  · subst hr9
    have hq15 := (fr14.at 1 (by omega)).trans h1
    have hq16 := (fr14.at 2 (by omega)).trans h2
    have hq17 := (fr14.at 5 (by omega)).trans h5
    have hq18 := (fr14.at 6 (by omega)).trans h6
    have hq19 := (fr14.at 7 (by omega)).trans h7
    have hq20 := (fr14.at 11 (by omega)).trans h11
    have hq21 := (fr14.at 12 (by omega)).trans h12
    have hq22 := (fr14.at 29 (by omega)).trans h29
    have hq23 := (fr14.at 66 (by omega)).trans h66
    have hq24 := (fr14.at 67 (by omega)).trans m67
    have hq25 := (fr14.at 68 (by omega)).trans m68
    have hq26 := (fr14.at 69 (by omega)).trans m69
    have hq27 := (fr14.at 70 (by omega)).trans m70
    have hq28 := (fr14.at 71 (by omega)).trans m71
    have hq29 := (fr14.at 72 (by omega)).trans m72
    have hq30 := (fr14.at 73 (by omega)).trans m73
    have hq31 := (fr14.at 74 (by omega)).trans m74
    have hq32 := (fr14.at 75 (by omega)).trans m75
    have hq33 := (fr14.at 76 (by omega)).trans m76
    have hq34 := (fr14.at 77 (by omega)).trans m77
    have hq35 : ∀ s, s < 16 → u[13 + s]? = some (ad (13 + s), iN K n (rw s)) := fun s hs => (fr14.at (13 + s) (by omega)).trans (hR s hs)
    have hq36 : ∀ s, s < 12 → u[31 + 3 * s]? = some (ad (31 + 3 * s), iN K 5 (pi s)) := fun s hs => (fr14.at (31 + 3 * s) (by omega)).trans (hP s hs)
    refine q_istore hc [(5, .int (iZ ((0 : Nat) : Int))), (0, .ref b), (1, .ref (ad 0)), (2, .ref (ad 66)), (3, .ref (ad 78)), (4, .int (iZ ((3 + 5 * t : Nat) : Int)))] dL_law_490 (by decide) rfl ?_
    refine q_aload_n hc 3 dL_law_492 rfl ?_
    refine q_aload_n hc 1 dL_law_493 rfl ?_
    refine q_iload hc 5 dL_law_494 rfl ?_
    refine q_iconstN hc 1 dL_law_496 rfl ?_
    refine q_iaddN hc dL_law_497 ?_
    refine q_sld (j := 3 + 5 * t + 1) hc hX hbl hbA rfl (by omega) (by omega) dL_law_498 ?_
    refine V.topi (show _ = a1 from ha1) ?_
    refine q_callMi (As := [.int (iZ a1)]) (rest := []) hc (c_X5_run l D K u ad a1 (10 * t) w h n th nc rc c0 cap _ hi pn rl pi ro mt mq md mk hq23 hq24 hq25 hq26 hq27 hq28 hq29 hq30 hq31 hq32 hq33 hWH hnc hr1 hc0 hcap hpn hpin hhb (by omega) (by omega) hI hx4) (cwV 1 hc.1.2.2.2.2 gL_law_X5_run rfl rfl rfl (by decide +kernel) ⟨Nat.le_of_ble_eq_true rfl, Nat.le_of_ble_eq_true rfl⟩) 66 hq23 rfl rfl rfl (by decide) dL_law_499 ⟨(show _ ≤ 601024 by omega), (show _ ≤ 7293000 by omega)⟩ (fun r38 u37 hp' => ?_)
    obtain ⟨x39, x40, x41, x42, hr43, hq44, hq45, hq46, hq47, hq48, hq49, hq50, hq51, fr52⟩ := hp'
    have hq53 := (fr52.at 0 (by omega)).trans hq7
    have hq54 := (fr52.at 1 (by omega)).trans hq15
    have hq55 := (fr52.at 2 (by omega)).trans hq16
    have hq56 := (fr52.at 3 (by omega)).trans hq5
    have hq57 := (fr52.at 4 (by omega)).trans hq6
    have hq58 := (fr52.at 5 (by omega)).trans hq17
    have hq59 := (fr52.at 6 (by omega)).trans hq18
    have hq60 := (fr52.at 7 (by omega)).trans hq19
    have hq61 := (fr52.at 8 (by omega)).trans hq8
    have hq62 := (fr52.at 9 (by omega)).trans hq9
    have hq63 := (fr52.at 10 (by omega)).trans hq10
    have hq64 := (fr52.at 11 (by omega)).trans hq20
    have hq65 := (fr52.at 12 (by omega)).trans hq21
    have hq66 := (fr52.at 29 (by omega)).trans hq22
    have hq67 := (fr52.at 67 (by omega)).trans hq24
    have hq68 := (fr52.at 69 (by omega)).trans hq26
    have hq69 := (fr52.at 70 (by omega)).trans hq27
    have hq70 := (fr52.at 77 (by omega)).trans hq34
    have hq71 := (fr52.at 78 (by omega)).trans hq13
    have hq72 : ∀ s, s < 16 → u37[13 + s]? = some (ad (13 + s), iN K n (rw s)) := fun s hs => (fr52.at (13 + s) (by omega)).trans (hq35 s hs)
    have hq73 : ∀ s, s < 12 → u37[31 + 3 * s]? = some (ad (31 + 3 * s), iN K 5 (pi s)) := fun s hs => (fr52.at (31 + 3 * s) (by omega)).trans (hq36 s hs)
    have hq74 : ∀ s, s < 12 → u37[30 + 3 * s]? = some (ad (30 + 3 * s), nO ad s (pn s) (((rnN (nbW w h) (btW w h) n nc cap pn pi a1.toNat ((us, ro, rl), hi)).2.1.2.2) s)) := fun s hs => (fr52.at (30 + 3 * s) (by omega)).trans (hq11 s hs)
    have hq75 : ∀ s, s < 12 → u37[32 + 3 * s]? = some (ad (32 + 3 * s), zA K (2 * n) (((rnN (nbW w h) (btW w h) n nc cap pn pi a1.toNat ((us, ro, rl), hi)).2.1.2.1) s)) := fun s hs => (fr52.at (32 + 3 * s) (by omega)).trans (hq12 s hs)
    subst hr43
    refine q_istore hc [(6, .int (iZ (((rnN (nbW w h) (btW w h) n nc cap pn pi a1.toNat ((us, ro, rl), hi)).1 : Nat) : Int))), (5, .int (iZ ((0 : Nat) : Int))), (0, .ref b), (1, .ref (ad 0)), (2, .ref (ad 66)), (3, .ref (ad 78)), (4, .int (iZ ((3 + 5 * t : Nat) : Int)))] dL_law_502 (by decide) rfl ?_
    refine q_aload_n hc 4 dL_law_504 rfl ?_
    refine q_callPn (As := []) (rest := []) hc (c_X5_thrown l D K u37 ad w h 0 nc (rc + (rnN (nbW w h) (btW w h) n nc cap pn pi a1.toNat ((us, ro, rl), hi)).1) hq44 ) (cwV 0 hc.1.2.2.2.2 gL_law_X5_thrown rfl rfl rfl (by decide +kernel) ⟨Nat.le_of_ble_eq_true rfl, Nat.le_of_ble_eq_true rfl⟩) 66 hq44 rfl rfl rfl (by decide) dL_law_505 ⟨(show _ ≤ 601024 by omega), (show _ ≤ 7293000 by omega)⟩ ?_
    refine q_iload hc 1 dL_law_508 rfl ?_
    refine q_icmpN_eq hc 515 dL_law_510 (by decide) (by omega) (by omega) (fun c78 => ?_) (fun c78 => ?_)
    · refine q_iload hc 1 dL_law_515 rfl ?_
      refine q_if_ne hc 532 dL_law_517 (by decide) (by omega) (fun c79 => ?_) (fun c79 => ?_)
      · exact absurd rfl c79
      · refine q_aload_n hc 5 dL_law_520 rfl ?_
        refine q_iconstN hc 0 dL_law_521 rfl ?_
        refine q_lald (j := 0) hc 78 hq71 rfl (by omega) (by omega) dL_law_522 ?_
        refine V.topj (show _ = (iZ (((rnN (nbW w h) (btW w h) n nc cap pn pi a1.toNat ((us, ro, rl), hi)).1 : Nat) : Int)).toInt from by rw [va_up_self]) ?_
        refine q_iload hc 0 dL_law_523 rfl ?_
        refine q_i2lw hc dL_law_525 ?_
        refine q_lcmpE hc dL_law_526 (show jZ ((iZ (((rnN (nbW w h) (btW w h) n nc cap pn pi a1.toNat ((us, ro, rl), hi)).1 : Nat) : Int)).toInt) = jZ ((iZ (((rnN (nbW w h) (btW w h) n nc cap pn pi a1.toNat ((us, ro, rl), hi)).1 : Nat) : Int)).toInt) from rfl) ?_
        refine q_if_eq hc 532 dL_law_527 (by decide) (by omega) (fun c80 => ?_) (fun c80 => ?_)
        · refine q_goto hc 1036 dL_law_532 (by decide) ?_
          refine V.widen (k := 79 + 2 * (t + 1)) (n := 8194 + 12 * (t + 1)) (by omega) (by omega) ?_
          refine V.sub [2, 3, 4, 5, 6] rfl ?_
          exact ih nc (rc + (rnN (nbW w h) (btW w h) n nc cap pn pi a1.toNat ((us, ro, rl), hi)).1) cap ((rnN (nbW w h) (btW w h) n nc cap pn pi a1.toNat ((us, ro, rl), hi)).2.1.1) ((rnN (nbW w h) (btW w h) n nc cap pn pi a1.toNat ((us, ro, rl), hi)).2.2) pn ((rnN (nbW w h) (btW w h) n nc cap pn pi a1.toNat ((us, ro, rl), hi)).2.1.2.2) pi ((rnN (nbW w h) (btW w h) n nc cap pn pi a1.toNat ((us, ro, rl), hi)).2.1.2.1) _ ⟨0, x1, x2, x3, rw, x39, x40, x41, x42, le, va_up fo 0 ((iZ (((rnN (nbW w h) (btW w h) n nc cap pn pi a1.toNat ((us, ro, rl), hi)).1 : Nat) : Int)).toInt), hq53, hq54, hq55, hq56, hq57, hq58, hq59, hq60, hq61, hq62, hq63, hq64, hq65, hq72, hq66, hq74, hq73, hq75, hq44, hq67, hq45, hq68, hq69, hq47, hq46, hq48, hq49, hq50, hq51, hq70, hq71, hrw⟩ (hG9.run hn (by have h9 := hx4; omega))
        · exact absurd rfl c80
    · exact absurd rfl c78
  · subst hw9; subst hr9
    refine q_istore hc [(5, .int (iZ ((1 : Nat) : Int))), (0, .ref b), (1, .ref (ad 0)), (2, .ref (ad 66)), (3, .ref (ad 78)), (4, .int (iZ ((3 + 5 * t : Nat) : Int)))] dL_law_490 (by decide) rfl ?_
    refine q_aload_n hc 3 dL_law_492 rfl ?_
    refine q_aload_n hc 1 dL_law_493 rfl ?_
    refine q_iload hc 5 dL_law_494 rfl ?_
    refine q_iconstN hc 1 dL_law_496 rfl ?_
    refine q_iaddN hc dL_law_497 ?_
    refine q_sld (j := 3 + 5 * t + 1) hc hX hbl hbA rfl (by omega) (by omega) dL_law_498 ?_
    refine V.topi (show _ = a1 from ha1) ?_
    refine q_callMi (As := [.int (iZ a1)]) (rest := []) hc (c_X5_run_e1 l D K ws ad w h th nc rc a1 h66 hr1 x0) (cwV 1 hc.1.2.2.2.2 gL_law_X5_run rfl rfl rfl (by decide +kernel) ⟨Nat.le_of_ble_eq_true rfl, Nat.le_of_ble_eq_true rfl⟩) 66 h66 rfl rfl rfl (by decide) dL_law_499 ⟨(show _ ≤ 601024 by omega), (show _ ≤ 7293000 by omega)⟩ (fun r82 u81 hp' => ?_)
    obtain ⟨hr85, hq83, fr84⟩ := hp'
    have hq86 := (fr84.at 0 (by omega)).trans h0
    have hq87 := (fr84.at 1 (by omega)).trans h1
    have hq88 := (fr84.at 2 (by omega)).trans h2
    have hq89 := (fr84.at 3 (by omega)).trans h3
    have hq90 := (fr84.at 4 (by omega)).trans h4
    have hq91 := (fr84.at 5 (by omega)).trans h5
    have hq92 := (fr84.at 6 (by omega)).trans h6
    have hq93 := (fr84.at 7 (by omega)).trans h7
    have hq94 := (fr84.at 8 (by omega)).trans h8
    have hq95 := (fr84.at 9 (by omega)).trans h9
    have hq96 := (fr84.at 10 (by omega)).trans h10
    have hq97 := (fr84.at 11 (by omega)).trans h11
    have hq98 := (fr84.at 12 (by omega)).trans h12
    have hq99 := (fr84.at 29 (by omega)).trans h29
    have hq100 := (fr84.at 67 (by omega)).trans m67
    have hq101 := (fr84.at 68 (by omega)).trans m68
    have hq102 := (fr84.at 69 (by omega)).trans m69
    have hq103 := (fr84.at 70 (by omega)).trans m70
    have hq104 := (fr84.at 71 (by omega)).trans m71
    have hq105 := (fr84.at 72 (by omega)).trans m72
    have hq106 := (fr84.at 73 (by omega)).trans m73
    have hq107 := (fr84.at 74 (by omega)).trans m74
    have hq108 := (fr84.at 75 (by omega)).trans m75
    have hq109 := (fr84.at 76 (by omega)).trans m76
    have hq110 := (fr84.at 77 (by omega)).trans m77
    have hq111 := (fr84.at 78 (by omega)).trans h78
    have hq112 : ∀ s, s < 16 → u81[13 + s]? = some (ad (13 + s), iN K n (rw s)) := fun s hs => (fr84.at (13 + s) (by omega)).trans (hR s hs)
    have hq113 : ∀ s, s < 12 → u81[30 + 3 * s]? = some (ad (30 + 3 * s), nO ad s (pn s) (rl s)) := fun s hs => (fr84.at (30 + 3 * s) (by omega)).trans (hN s hs)
    have hq114 : ∀ s, s < 12 → u81[31 + 3 * s]? = some (ad (31 + 3 * s), iN K 5 (pi s)) := fun s hs => (fr84.at (31 + 3 * s) (by omega)).trans (hP s hs)
    have hq115 : ∀ s, s < 12 → u81[32 + 3 * s]? = some (ad (32 + 3 * s), zA K (2 * n) (ro s)) := fun s hs => (fr84.at (32 + 3 * s) (by omega)).trans (hO s hs)
    subst hr85
    refine q_istore hc [(6, .int (iZ ((0 : Nat) : Int))), (5, .int (iZ ((1 : Nat) : Int))), (0, .ref b), (1, .ref (ad 0)), (2, .ref (ad 66)), (3, .ref (ad 78)), (4, .int (iZ ((3 + 5 * t : Nat) : Int)))] dL_law_502 (by decide) rfl ?_
    refine q_aload_n hc 4 dL_law_504 rfl ?_
    refine q_callPn (As := []) (rest := []) hc (c_X5_thrown l D K u81 ad w h 1 nc rc hq83 ) (cwV 0 hc.1.2.2.2.2 gL_law_X5_thrown rfl rfl rfl (by decide +kernel) ⟨Nat.le_of_ble_eq_true rfl, Nat.le_of_ble_eq_true rfl⟩) 66 hq83 rfl rfl rfl (by decide) dL_law_505 ⟨(show _ ≤ 601024 by omega), (show _ ≤ 7293000 by omega)⟩ ?_
    refine q_iload hc 1 dL_law_508 rfl ?_
    refine q_icmpN_eq hc 515 dL_law_510 (by decide) (by omega) (by omega) (fun c118 => ?_) (fun c118 => ?_)
    · refine q_iload hc 1 dL_law_515 rfl ?_
      refine q_if_ne hc 532 dL_law_517 (by decide) (by omega) (fun c119 => ?_) (fun c119 => ?_)
      · refine q_goto hc 1036 dL_law_532 (by decide) ?_
        refine V.widen (k := 79 + 2 * (t + 1)) (n := 8194 + 12 * (t + 1)) (by omega) (by omega) ?_
        refine V.sub [2, 3, 4, 5, 6] rfl ?_
        exact ih nc rc cap us hi pn rl pi ro _ ⟨1, co, di, tr, rw, mt, md, mk, mq, le, fo, hq86, hq87, hq88, hq89, hq90, hq91, hq92, hq93, hq94, hq95, hq96, hq97, hq98, hq112, hq99, hq113, hq114, hq115, hq83, hq100, hq101, hq102, hq103, hq104, hq105, hq106, hq107, hq108, hq109, hq110, hq111, hrw⟩ (hG9.mono)
      · exact absurd c119 (by decide)
    · exact absurd rfl c118
