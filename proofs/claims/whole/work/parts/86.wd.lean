set_option maxRecDepth 100000 in
set_option maxHeartbeats 16000000 in
theorem lw_rip {p : Program} {l : Launch} {e : Env} {s : State} {m : MethodId} {below : List Frame} {meth : Method} {c : Code} {b L : Nat} {xs : Nat → Int32} {D : va_G} {K : Nat → ClassId} {ad : Nat → Nat} {w h n c0 : Nat} (hC : LC p l s m c b L xs D K w h n c0) {t : Nat} (ht : 3 + 5 * t + 5 ≤ L) {nc rc : Nat} {cap us hi pn : Nat → Nat} {rl : Nat → Int} {pi : Nat → Nat → Nat} {ro : Nat → Nat → Bool} {ws : va_W} (hF : FW K ad w h n c0 nc rc cap us hi pn rl pi ro ws) (hG : GI n nc rc cap hi pn pi (us, ro, rl) t) (ih : ∀ (nc rc : Nat) (cap us hi pn : Nat → Nat) (rl : Nat → Int) (pi : Nat → Nat → Nat) (ro : Nat → Nat → Bool) (u : va_W), FW K ad w h n c0 nc rc cap us hi pn rl pi ro u → GI n nc rc cap hi pn pi (us, ro, rl) (t + 1) → V p l e room_1 s m #[Value.ref b] below meth c 8 (79 + 2 * (t + 1)) (8194 + 12 * (t + 1)) (lw_Z below #[Value.ref b] s) (hpM D (va_A [] s.heap.size) s.heap) u [(0, .ref b), (1, .ref (ad 0)), (2, .ref (ad 66)), (3, .ref (ad 78)), (4, .int (iZ ((3 + 5 * t : Nat) : Int)))] 1036 []) : V p l e room_1 s m #[Value.ref b] below meth c 8 (79 + 2 * t) (8194 + 12 * t) (lw_Z below #[Value.ref b] s) (hpM D (va_A [] s.heap.size) s.heap) ws [(0, .ref b), (1, .ref (ad 0)), (2, .ref (ad 66)), (3, .ref (ad 78)), (4, .int (iZ ((3 + 5 * t : Nat) : Int)))] 423 [] := by
  obtain ⟨hc, hXE, hX, hbl, hl, hWH, hc0, hL⟩ := hC
  have hbA : ¬ va_A [] s.heap.size b := no_A hbl
  have hF9 := hF; have hG9 := hG
  obtain ⟨th, co, di, tr, rw, mt, md, mk, mq, le, fo, h0, h1, h2, h3, h4, h5, h6, h7, h8, h9, h10, h11, h12, hR, h29, hN, hP, hO, h66, m67, m68, m69, m70, m71, m72, m73, m74, m75, m76, m77, h78, hrw⟩ := hF
  obtain ⟨hnc, hcap, hhb, hpn0, hpin0, hpif0, hRI, hrc⟩ := hG
  have hn := hWH.le; have hw2 := hWH.1; have hxy := hWH.xy; have hNB := NB_W hWH
  have hw : 0 < w ∧ w ≤ 8 ∧ h ≤ 8 := ⟨by omega, by omega, by omega⟩
  have hI := hRI.1; have hUC : UC n nc us ro := hI.1; have hR0 : RO0 n nc ro rl := hI.2.1; have hRL : RLc n nc ro rl := hRI.2.1; have hrl : ∀ j, j < nc → -1 ≤ rl j ∧ rl j ≤ 128 := hI.2.2; have hus : ∀ k, k < 2 * n → us k ≤ 12 := hI.us hnc
  have hhi : ∀ k, k < 2 * n → hi k ≤ 5120 := fun k hk => by have h9 := hhb k hk; omega
  have hpn : ∀ j, j < nc → pn j ≤ 5 := fun j _ => hpn0 j
  have hpin : ∀ j k, j < nc → k < pn j → pi j k < n := fun j k _ hk => hpin0 j k hk
  have hpif : ∀ j k, j < nc → pi j k < 64 := fun j k _ => hpif0 j k
  obtain ⟨a1, ha1, hr1⟩ : ∃ a9 : Int, (xs (3 + 5 * t + 1)).toInt = a9 ∧ (-2147483648 ≤ a9 ∧ a9 < 2147483648) := ⟨_, rfl, iZ_rng _⟩
  obtain ⟨a2, ha2, hr2⟩ : ∃ a9 : Int, (xs (3 + 5 * t + 2)).toInt = a9 ∧ (-2147483648 ≤ a9 ∧ a9 < 2147483648) := ⟨_, rfl, iZ_rng _⟩
  obtain ⟨a3, ha3, hr3⟩ : ∃ a9 : Int, (xs (3 + 5 * t + 3)).toInt = a9 ∧ (-2147483648 ≤ a9 ∧ a9 < 2147483648) := ⟨_, rfl, iZ_rng _⟩
  obtain ⟨a4, ha4, hr4⟩ : ∃ a9 : Int, (xs (3 + 5 * t + 4)).toInt = a9 ∧ (-2147483648 ≤ a9 ∧ a9 < 2147483648) := ⟨_, rfl, iZ_rng _⟩
  refine q_aload_n hc 1 dL_law_423 rfl ?_
  refine q_aload_n hc 0 dL_law_424 rfl ?_
  refine q_iload hc 4 dL_law_425 rfl ?_
  refine q_iconstN hc 1 dL_law_427 rfl ?_
  refine q_iaddN hc dL_law_428 ?_
  refine q_sld (j := 3 + 5 * t + 1) hc hX hbl hbA rfl (by omega) (by omega) dL_law_429 ?_
  refine V.topi (show _ = a1 from ha1) ?_
  refine q_aload_n hc 3 dL_law_430 rfl ?_
  refine q_callLi (As := [.ref (ad 0), .int (iZ a1), .ref (ad 78)]) (rest := []) hc hXE (c_L_rip l hl D K ws ad nc rc a1 w h n us pn rl ro fo h0 h1 h3 h29 hN hO h78 hnc hr1 hn hI) (vx_cwSW 3 hc.1.2.2.2.2 gL_law_L_rip rfl rfl rfl (by decide +kernel) ⟨Nat.le_of_ble_eq_true rfl, Nat.le_of_ble_eq_true rfl⟩) rfl rfl (by decide) dL_law_431 ⟨(show _ ≤ 601024 by omega), (show _ ≤ 7293000 by omega)⟩ (fun r u hp' => ?_)
  rcases hp' with ⟨hr9, hx1, hq2, hq3, hq4, hq5, fr6⟩ | ⟨hr9, x0, hw9⟩
  · subst hr9
    have hq7 := (fr6.at 0 (by omega)).trans h0
    have hq8 := (fr6.at 1 (by omega)).trans h1
    have hq9 := (fr6.at 2 (by omega)).trans h2
    have hq10 := (fr6.at 4 (by omega)).trans h4
    have hq11 := (fr6.at 5 (by omega)).trans h5
    have hq12 := (fr6.at 6 (by omega)).trans h6
    have hq13 := (fr6.at 7 (by omega)).trans h7
    have hq14 := (fr6.at 8 (by omega)).trans h8
    have hq15 := (fr6.at 9 (by omega)).trans h9
    have hq16 := (fr6.at 10 (by omega)).trans h10
    have hq17 := (fr6.at 11 (by omega)).trans h11
    have hq18 := (fr6.at 12 (by omega)).trans h12
    have hq19 := (fr6.at 29 (by omega)).trans h29
    have hq20 := (fr6.at 66 (by omega)).trans h66
    have hq21 := (fr6.at 67 (by omega)).trans m67
    have hq22 := (fr6.at 68 (by omega)).trans m68
    have hq23 := (fr6.at 69 (by omega)).trans m69
    have hq24 := (fr6.at 70 (by omega)).trans m70
    have hq25 := (fr6.at 71 (by omega)).trans m71
    have hq26 := (fr6.at 72 (by omega)).trans m72
    have hq27 := (fr6.at 73 (by omega)).trans m73
    have hq28 := (fr6.at 74 (by omega)).trans m74
    have hq29 := (fr6.at 75 (by omega)).trans m75
    have hq30 := (fr6.at 76 (by omega)).trans m76
    have hq31 := (fr6.at 77 (by omega)).trans m77
    have hq32 : ∀ s, s < 16 → u[13 + s]? = some (ad (13 + s), iN K n (rw s)) := fun s hs => (fr6.at (13 + s) (by omega)).trans (hR s hs)
    have hq33 : ∀ s, s < 12 → u[31 + 3 * s]? = some (ad (31 + 3 * s), iN K 5 (pi s)) := fun s hs => (fr6.at (31 + 3 * s) (by omega)).trans (hP s hs)
    refine q_istore hc [(5, .int (iZ ((0 : Nat) : Int))), (0, .ref b), (1, .ref (ad 0)), (2, .ref (ad 66)), (3, .ref (ad 78)), (4, .int (iZ ((3 + 5 * t : Nat) : Int)))] dL_law_434 (by decide) rfl ?_
    refine q_aload_n hc 3 dL_law_436 rfl ?_
    refine q_aload_n hc 1 dL_law_437 rfl ?_
    refine q_iload hc 5 dL_law_438 rfl ?_
    refine q_iconstN hc 1 dL_law_440 rfl ?_
    refine q_iaddN hc dL_law_441 ?_
    refine q_sld (j := 3 + 5 * t + 1) hc hX hbl hbA rfl (by omega) (by omega) dL_law_442 ?_
    refine V.topi (show _ = a1 from ha1) ?_
    refine q_callMi (As := [.int (iZ a1)]) (rest := []) hc (c_X5_rip l D K u ad w h n th nc rc a1 rl ro hq20 hq25 hq26 hnc hr1 hn hx1 hRL hR0) (cwV 1 hc.1.2.2.2.2 gL_law_X5_rip rfl rfl rfl (by decide +kernel) ⟨Nat.le_of_ble_eq_true rfl, Nat.le_of_ble_eq_true rfl⟩) 66 hq20 rfl rfl rfl (by decide) dL_law_443 ⟨(show _ ≤ 601024 by omega), (show _ ≤ 7293000 by omega)⟩ (fun r35 u34 hp' => ?_)
    obtain ⟨hr40, hq36, hq37, hq38, fr39⟩ := hp'
    have hq41 := (fr39.at 0 (by omega)).trans hq7
    have hq42 := (fr39.at 1 (by omega)).trans hq8
    have hq43 := (fr39.at 2 (by omega)).trans hq9
    have hq44 := (fr39.at 3 (by omega)).trans hq2
    have hq45 := (fr39.at 4 (by omega)).trans hq10
    have hq46 := (fr39.at 5 (by omega)).trans hq11
    have hq47 := (fr39.at 6 (by omega)).trans hq12
    have hq48 := (fr39.at 7 (by omega)).trans hq13
    have hq49 := (fr39.at 8 (by omega)).trans hq14
    have hq50 := (fr39.at 9 (by omega)).trans hq15
    have hq51 := (fr39.at 10 (by omega)).trans hq16
    have hq52 := (fr39.at 11 (by omega)).trans hq17
    have hq53 := (fr39.at 12 (by omega)).trans hq18
    have hq54 := (fr39.at 29 (by omega)).trans hq19
    have hq55 := (fr39.at 67 (by omega)).trans hq21
    have hq56 := (fr39.at 68 (by omega)).trans hq22
    have hq57 := (fr39.at 69 (by omega)).trans hq23
    have hq58 := (fr39.at 70 (by omega)).trans hq24
    have hq59 := (fr39.at 73 (by omega)).trans hq27
    have hq60 := (fr39.at 74 (by omega)).trans hq28
    have hq61 := (fr39.at 75 (by omega)).trans hq29
    have hq62 := (fr39.at 76 (by omega)).trans hq30
    have hq63 := (fr39.at 77 (by omega)).trans hq31
    have hq64 := (fr39.at 78 (by omega)).trans hq5
    have hq65 : ∀ s, s < 16 → u34[13 + s]? = some (ad (13 + s), iN K n (rw s)) := fun s hs => (fr39.at (13 + s) (by omega)).trans (hq32 s hs)
    have hq66 : ∀ s, s < 12 → u34[31 + 3 * s]? = some (ad (31 + 3 * s), iN K 5 (pi s)) := fun s hs => (fr39.at (31 + 3 * s) (by omega)).trans (hq33 s hs)
    have hq67 : ∀ s, s < 12 → u34[30 + 3 * s]? = some (ad (30 + 3 * s), nO ad s (pn s) ((va_up rl a1.toNat (-1)) s)) := fun s hs => (fr39.at (30 + 3 * s) (by omega)).trans (hq3 s hs)
    have hq68 : ∀ s, s < 12 → u34[32 + 3 * s]? = some (ad (32 + 3 * s), zA K (2 * n) ((va_up ro a1.toNat (fun _ => false)) s)) := fun s hs => (fr39.at (32 + 3 * s) (by omega)).trans (hq4 s hs)
    subst hr40
    refine q_istore hc [(6, .int (iZ (rl a1.toNat))), (5, .int (iZ ((0 : Nat) : Int))), (0, .ref b), (1, .ref (ad 0)), (2, .ref (ad 66)), (3, .ref (ad 78)), (4, .int (iZ ((3 + 5 * t : Nat) : Int)))] dL_law_446 (by decide) rfl ?_
    refine q_aload_n hc 4 dL_law_448 rfl ?_
    refine q_callPn (As := []) (rest := []) hc (c_X5_thrown l D K u34 ad w h 0 nc rc hq36 ) (cwV 0 hc.1.2.2.2.2 gL_law_X5_thrown rfl rfl rfl (by decide +kernel) ⟨Nat.le_of_ble_eq_true rfl, Nat.le_of_ble_eq_true rfl⟩) 66 hq36 rfl rfl rfl (by decide) dL_law_449 ⟨(show _ ≤ 601024 by omega), (show _ ≤ 7293000 by omega)⟩ ?_
    refine q_iload hc 1 dL_law_452 rfl ?_
    refine q_icmpN_eq hc 459 dL_law_454 (by decide) (by omega) (by omega) (fun c71 => ?_) (fun c71 => ?_)
    · refine q_iload hc 1 dL_law_459 rfl ?_
      refine q_if_ne hc 476 dL_law_461 (by decide) (by omega) (fun c72 => ?_) (fun c72 => ?_)
      · exact absurd rfl c72
      · refine q_aload_n hc 5 dL_law_464 rfl ?_
        refine q_iconstN hc 0 dL_law_465 rfl ?_
        refine q_lald (j := 0) hc 78 hq64 rfl (by omega) (by omega) dL_law_466 ?_
        refine V.topj (show _ = (iZ (rl a1.toNat)).toInt from by rw [va_up_self]) ?_
        refine q_iload hc 0 dL_law_467 rfl ?_
        refine q_i2lw hc dL_law_469 ?_
        refine q_lcmpE hc dL_law_470 (show jZ ((iZ (rl a1.toNat)).toInt) = jZ ((iZ (rl a1.toNat)).toInt) from rfl) ?_
        refine q_if_eq hc 476 dL_law_471 (by decide) (by omega) (fun c73 => ?_) (fun c73 => ?_)
        · refine q_goto hc 1036 dL_law_476 (by decide) ?_
          refine V.widen (k := 79 + 2 * (t + 1)) (n := 8194 + 12 * (t + 1)) (by omega) (by omega) ?_
          refine V.sub [2, 3, 4, 5, 6] rfl ?_
          exact ih nc rc cap (sbU us (ro a1.toNat)) hi pn (va_up rl a1.toNat (-1)) pi (va_up ro a1.toNat (fun _ => false)) _ ⟨0, co, di, tr, rw, mt, md, mk, mq, le, va_up fo 0 ((iZ (rl a1.toNat)).toInt), hq41, hq42, hq43, hq44, hq45, hq46, hq47, hq48, hq49, hq50, hq51, hq52, hq53, hq65, hq54, hq67, hq66, hq68, hq36, hq55, hq56, hq57, hq58, hq38, hq37, hq59, hq60, hq61, hq62, hq63, hq64, hrw⟩ (hG9.rip hn (by have h9 := hx1; omega))
        · exact absurd rfl c73
    · exact absurd rfl c71
  · subst hw9; subst hr9
    refine q_istore hc [(5, .int (iZ ((1 : Nat) : Int))), (0, .ref b), (1, .ref (ad 0)), (2, .ref (ad 66)), (3, .ref (ad 78)), (4, .int (iZ ((3 + 5 * t : Nat) : Int)))] dL_law_434 (by decide) rfl ?_
    refine q_aload_n hc 3 dL_law_436 rfl ?_
    refine q_aload_n hc 1 dL_law_437 rfl ?_
    refine q_iload hc 5 dL_law_438 rfl ?_
    refine q_iconstN hc 1 dL_law_440 rfl ?_
    refine q_iaddN hc dL_law_441 ?_
    refine q_sld (j := 3 + 5 * t + 1) hc hX hbl hbA rfl (by omega) (by omega) dL_law_442 ?_
    refine V.topi (show _ = a1 from ha1) ?_
    refine q_callMi (As := [.int (iZ a1)]) (rest := []) hc (c_X5_rip_e1 l D K ws ad w h th nc rc a1 h66 hnc hr1 x0) (cwV 1 hc.1.2.2.2.2 gL_law_X5_rip rfl rfl rfl (by decide +kernel) ⟨Nat.le_of_ble_eq_true rfl, Nat.le_of_ble_eq_true rfl⟩) 66 h66 rfl rfl rfl (by decide) dL_law_443 ⟨(show _ ≤ 601024 by omega), (show _ ≤ 7293000 by omega)⟩ (fun r75 u74 hp' => ?_)
    obtain ⟨hr78, hq76, fr77⟩ := hp'
    have hq79 := (fr77.at 0 (by omega)).trans h0
    have hq80 := (fr77.at 1 (by omega)).trans h1
    have hq81 := (fr77.at 2 (by omega)).trans h2
    have hq82 := (fr77.at 3 (by omega)).trans h3
    have hq83 := (fr77.at 4 (by omega)).trans h4
    have hq84 := (fr77.at 5 (by omega)).trans h5
    have hq85 := (fr77.at 6 (by omega)).trans h6
    have hq86 := (fr77.at 7 (by omega)).trans h7
    have hq87 := (fr77.at 8 (by omega)).trans h8
    have hq88 := (fr77.at 9 (by omega)).trans h9
    have hq89 := (fr77.at 10 (by omega)).trans h10
    have hq90 := (fr77.at 11 (by omega)).trans h11
    have hq91 := (fr77.at 12 (by omega)).trans h12
    have hq92 := (fr77.at 29 (by omega)).trans h29
    have hq93 := (fr77.at 67 (by omega)).trans m67
    have hq94 := (fr77.at 68 (by omega)).trans m68
    have hq95 := (fr77.at 69 (by omega)).trans m69
    have hq96 := (fr77.at 70 (by omega)).trans m70
    have hq97 := (fr77.at 71 (by omega)).trans m71
    have hq98 := (fr77.at 72 (by omega)).trans m72
    have hq99 := (fr77.at 73 (by omega)).trans m73
    have hq100 := (fr77.at 74 (by omega)).trans m74
    have hq101 := (fr77.at 75 (by omega)).trans m75
    have hq102 := (fr77.at 76 (by omega)).trans m76
    have hq103 := (fr77.at 77 (by omega)).trans m77
    have hq104 := (fr77.at 78 (by omega)).trans h78
    have hq105 : ∀ s, s < 16 → u74[13 + s]? = some (ad (13 + s), iN K n (rw s)) := fun s hs => (fr77.at (13 + s) (by omega)).trans (hR s hs)
    have hq106 : ∀ s, s < 12 → u74[30 + 3 * s]? = some (ad (30 + 3 * s), nO ad s (pn s) (rl s)) := fun s hs => (fr77.at (30 + 3 * s) (by omega)).trans (hN s hs)
    have hq107 : ∀ s, s < 12 → u74[31 + 3 * s]? = some (ad (31 + 3 * s), iN K 5 (pi s)) := fun s hs => (fr77.at (31 + 3 * s) (by omega)).trans (hP s hs)
    have hq108 : ∀ s, s < 12 → u74[32 + 3 * s]? = some (ad (32 + 3 * s), zA K (2 * n) (ro s)) := fun s hs => (fr77.at (32 + 3 * s) (by omega)).trans (hO s hs)
    subst hr78
    refine q_istore hc [(6, .int (iZ ((0 : Nat) : Int))), (5, .int (iZ ((1 : Nat) : Int))), (0, .ref b), (1, .ref (ad 0)), (2, .ref (ad 66)), (3, .ref (ad 78)), (4, .int (iZ ((3 + 5 * t : Nat) : Int)))] dL_law_446 (by decide) rfl ?_
    refine q_aload_n hc 4 dL_law_448 rfl ?_
    refine q_callPn (As := []) (rest := []) hc (c_X5_thrown l D K u74 ad w h 1 nc rc hq76 ) (cwV 0 hc.1.2.2.2.2 gL_law_X5_thrown rfl rfl rfl (by decide +kernel) ⟨Nat.le_of_ble_eq_true rfl, Nat.le_of_ble_eq_true rfl⟩) 66 hq76 rfl rfl rfl (by decide) dL_law_449 ⟨(show _ ≤ 601024 by omega), (show _ ≤ 7293000 by omega)⟩ ?_
    refine q_iload hc 1 dL_law_452 rfl ?_
    refine q_icmpN_eq hc 459 dL_law_454 (by decide) (by omega) (by omega) (fun c111 => ?_) (fun c111 => ?_)
    · refine q_iload hc 1 dL_law_459 rfl ?_
      refine q_if_ne hc 476 dL_law_461 (by decide) (by omega) (fun c112 => ?_) (fun c112 => ?_)
      · refine q_goto hc 1036 dL_law_476 (by decide) ?_
        refine V.widen (k := 79 + 2 * (t + 1)) (n := 8194 + 12 * (t + 1)) (by omega) (by omega) ?_
        refine V.sub [2, 3, 4, 5, 6] rfl ?_
        exact ih nc rc cap us hi pn rl pi ro _ ⟨1, co, di, tr, rw, mt, md, mk, mq, le, fo, hq79, hq80, hq81, hq82, hq83, hq84, hq85, hq86, hq87, hq88, hq89, hq90, hq91, hq105, hq92, hq106, hq107, hq108, hq76, hq93, hq94, hq95, hq96, hq97, hq98, hq99, hq100, hq101, hq102, hq103, hq104, hrw⟩ (hG9.mono)
      · exact absurd c112 (by decide)
    · exact absurd rfl c111

set_option maxRecDepth 100000 in
set_option maxHeartbeats 16000000 in
theorem lw_forget {p : Program} {l : Launch} {e : Env} {s : State} {m : MethodId} {below : List Frame} {meth : Method} {c : Code} {b L : Nat} {xs : Nat → Int32} {D : va_G} {K : Nat → ClassId} {ad : Nat → Nat} {w h n c0 : Nat} (hC : LC p l s m c b L xs D K w h n c0) {t : Nat} (ht : 3 + 5 * t + 5 ≤ L) {nc rc : Nat} {cap us hi pn : Nat → Nat} {rl : Nat → Int} {pi : Nat → Nat → Nat} {ro : Nat → Nat → Bool} {ws : va_W} (hF : FW K ad w h n c0 nc rc cap us hi pn rl pi ro ws) (hG : GI n nc rc cap hi pn pi (us, ro, rl) t) (ih : ∀ (nc rc : Nat) (cap us hi pn : Nat → Nat) (rl : Nat → Int) (pi : Nat → Nat → Nat) (ro : Nat → Nat → Bool) (u : va_W), FW K ad w h n c0 nc rc cap us hi pn rl pi ro u → GI n nc rc cap hi pn pi (us, ro, rl) (t + 1) → V p l e room_1 s m #[Value.ref b] below meth c 8 (79 + 2 * (t + 1)) (8194 + 12 * (t + 1)) (lw_Z below #[Value.ref b] s) (hpM D (va_A [] s.heap.size) s.heap) u [(0, .ref b), (1, .ref (ad 0)), (2, .ref (ad 66)), (3, .ref (ad 78)), (4, .int (iZ ((3 + 5 * t : Nat) : Int)))] 1036 []) : V p l e room_1 s m #[Value.ref b] below meth c 8 (79 + 2 * t) (8194 + 12 * t) (lw_Z below #[Value.ref b] s) (hpM D (va_A [] s.heap.size) s.heap) ws [(0, .ref b), (1, .ref (ad 0)), (2, .ref (ad 66)), (3, .ref (ad 78)), (4, .int (iZ ((3 + 5 * t : Nat) : Int)))] 535 [] := by
  obtain ⟨hc, hXE, hX, hbl, hl, hWH, hc0, hL⟩ := hC
  have hbA : ¬ va_A [] s.heap.size b := no_A hbl
  have hF9 := hF; have hG9 := hG
  obtain ⟨th, co, di, tr, rw, mt, md, mk, mq, le, fo, h0, h1, h2, h3, h4, h5, h6, h7, h8, h9, h10, h11, h12, hR, h29, hN, hP, hO, h66, m67, m68, m69, m70, m71, m72, m73, m74, m75, m76, m77, h78, hrw⟩ := hF
  obtain ⟨hnc, hcap, hhb, hpn0, hpin0, hpif0, hRI, hrc⟩ := hG
  have hn := hWH.le; have hw2 := hWH.1; have hxy := hWH.xy; have hNB := NB_W hWH
  have hw : 0 < w ∧ w ≤ 8 ∧ h ≤ 8 := ⟨by omega, by omega, by omega⟩
  have hI := hRI.1; have hUC : UC n nc us ro := hI.1; have hR0 : RO0 n nc ro rl := hI.2.1; have hRL : RLc n nc ro rl := hRI.2.1; have hrl : ∀ j, j < nc → -1 ≤ rl j ∧ rl j ≤ 128 := hI.2.2; have hus : ∀ k, k < 2 * n → us k ≤ 12 := hI.us hnc
  have hhi : ∀ k, k < 2 * n → hi k ≤ 5120 := fun k hk => by have h9 := hhb k hk; omega
  have hpn : ∀ j, j < nc → pn j ≤ 5 := fun j _ => hpn0 j
  have hpin : ∀ j k, j < nc → k < pn j → pi j k < n := fun j k _ hk => hpin0 j k hk
  have hpif : ∀ j k, j < nc → pi j k < 64 := fun j k _ => hpif0 j k
  obtain ⟨a1, ha1, hr1⟩ : ∃ a9 : Int, (xs (3 + 5 * t + 1)).toInt = a9 ∧ (-2147483648 ≤ a9 ∧ a9 < 2147483648) := ⟨_, rfl, iZ_rng _⟩
  obtain ⟨a2, ha2, hr2⟩ : ∃ a9 : Int, (xs (3 + 5 * t + 2)).toInt = a9 ∧ (-2147483648 ≤ a9 ∧ a9 < 2147483648) := ⟨_, rfl, iZ_rng _⟩
  obtain ⟨a3, ha3, hr3⟩ : ∃ a9 : Int, (xs (3 + 5 * t + 3)).toInt = a9 ∧ (-2147483648 ≤ a9 ∧ a9 < 2147483648) := ⟨_, rfl, iZ_rng _⟩
  obtain ⟨a4, ha4, hr4⟩ : ∃ a9 : Int, (xs (3 + 5 * t + 4)).toInt = a9 ∧ (-2147483648 ≤ a9 ∧ a9 < 2147483648) := ⟨_, rfl, iZ_rng _⟩
  refine q_aload_n hc 1 dL_law_535 rfl ?_
  refine q_callMl (As := []) (rest := []) hc (c_X4_forget l D K ws ad nc rc w h n hi h0 h1 h4 hn hhi) (cwV 0 hc.1.2.2.2.2 gL_law_X4_forget rfl rfl rfl (by decide +kernel) ⟨Nat.le_of_ble_eq_true rfl, Nat.le_of_ble_eq_true rfl⟩) 0 h0 rfl rfl rfl (by decide) dL_law_536 ⟨(show _ ≤ 601024 by omega), (show _ ≤ 7293000 by omega)⟩ (fun r2 u1 hp' => ?_)
  obtain ⟨hr5, hq3, fr4⟩ := hp'
  have hq6 := (fr4.at 0 (by omega)).trans h0
  have hq7 := (fr4.at 1 (by omega)).trans h1
  have hq8 := (fr4.at 2 (by omega)).trans h2
  have hq9 := (fr4.at 3 (by omega)).trans h3
  have hq10 := (fr4.at 5 (by omega)).trans h5
  have hq11 := (fr4.at 6 (by omega)).trans h6
  have hq12 := (fr4.at 7 (by omega)).trans h7
  have hq13 := (fr4.at 8 (by omega)).trans h8
  have hq14 := (fr4.at 9 (by omega)).trans h9
  have hq15 := (fr4.at 10 (by omega)).trans h10
  have hq16 := (fr4.at 11 (by omega)).trans h11
  have hq17 := (fr4.at 12 (by omega)).trans h12
  have hq18 := (fr4.at 29 (by omega)).trans h29
  have hq19 := (fr4.at 66 (by omega)).trans h66
  have hq20 := (fr4.at 67 (by omega)).trans m67
  have hq21 := (fr4.at 68 (by omega)).trans m68
  have hq22 := (fr4.at 69 (by omega)).trans m69
  have hq23 := (fr4.at 70 (by omega)).trans m70
  have hq24 := (fr4.at 71 (by omega)).trans m71
  have hq25 := (fr4.at 72 (by omega)).trans m72
  have hq26 := (fr4.at 73 (by omega)).trans m73
  have hq27 := (fr4.at 74 (by omega)).trans m74
  have hq28 := (fr4.at 75 (by omega)).trans m75
  have hq29 := (fr4.at 76 (by omega)).trans m76
  have hq30 := (fr4.at 77 (by omega)).trans m77
  have hq31 := (fr4.at 78 (by omega)).trans h78
  have hq32 : ∀ s, s < 16 → u1[13 + s]? = some (ad (13 + s), iN K n (rw s)) := fun s hs => (fr4.at (13 + s) (by omega)).trans (hR s hs)
  have hq33 : ∀ s, s < 12 → u1[30 + 3 * s]? = some (ad (30 + 3 * s), nO ad s (pn s) (rl s)) := fun s hs => (fr4.at (30 + 3 * s) (by omega)).trans (hN s hs)
  have hq34 : ∀ s, s < 12 → u1[31 + 3 * s]? = some (ad (31 + 3 * s), iN K 5 (pi s)) := fun s hs => (fr4.at (31 + 3 * s) (by omega)).trans (hP s hs)
  have hq35 : ∀ s, s < 12 → u1[32 + 3 * s]? = some (ad (32 + 3 * s), zA K (2 * n) (ro s)) := fun s hs => (fr4.at (32 + 3 * s) (by omega)).trans (hO s hs)
  subst hr5
  refine q_aload_n hc 2 dL_law_539 rfl ?_
  refine q_callMl (As := []) (rest := [.long (jZ ((sm hi (2 * n) : Nat) : Int))]) hc (c_X5_forget l D K u1 ad w h n th nc rc hi hq19 hq21 hn hhi) (cwV 0 hc.1.2.2.2.2 gL_law_X5_forget rfl rfl rfl (by decide +kernel) ⟨Nat.le_of_ble_eq_true rfl, Nat.le_of_ble_eq_true rfl⟩) 66 hq19 rfl rfl rfl (by simp [Value.category]) dL_law_540 ⟨(show _ ≤ 601024 by omega), (show _ ≤ 7293000 by omega)⟩ (fun r37 u36 hp' => ?_)
  obtain ⟨hr41, hq38, hq39, fr40⟩ := hp'
  have hq42 := (fr40.at 0 (by omega)).trans hq6
  have hq43 := (fr40.at 1 (by omega)).trans hq7
  have hq44 := (fr40.at 2 (by omega)).trans hq8
  have hq45 := (fr40.at 3 (by omega)).trans hq9
  have hq46 := (fr40.at 4 (by omega)).trans hq3
  have hq47 := (fr40.at 5 (by omega)).trans hq10
  have hq48 := (fr40.at 6 (by omega)).trans hq11
  have hq49 := (fr40.at 7 (by omega)).trans hq12
  have hq50 := (fr40.at 8 (by omega)).trans hq13
  have hq51 := (fr40.at 9 (by omega)).trans hq14
  have hq52 := (fr40.at 10 (by omega)).trans hq15
  have hq53 := (fr40.at 11 (by omega)).trans hq16
  have hq54 := (fr40.at 12 (by omega)).trans hq17
  have hq55 := (fr40.at 29 (by omega)).trans hq18
  have hq56 := (fr40.at 67 (by omega)).trans hq20
  have hq57 := (fr40.at 69 (by omega)).trans hq22
  have hq58 := (fr40.at 70 (by omega)).trans hq23
  have hq59 := (fr40.at 71 (by omega)).trans hq24
  have hq60 := (fr40.at 72 (by omega)).trans hq25
  have hq61 := (fr40.at 73 (by omega)).trans hq26
  have hq62 := (fr40.at 74 (by omega)).trans hq27
  have hq63 := (fr40.at 75 (by omega)).trans hq28
  have hq64 := (fr40.at 76 (by omega)).trans hq29
  have hq65 := (fr40.at 77 (by omega)).trans hq30
  have hq66 := (fr40.at 78 (by omega)).trans hq31
  have hq67 : ∀ s, s < 16 → u36[13 + s]? = some (ad (13 + s), iN K n (rw s)) := fun s hs => (fr40.at (13 + s) (by omega)).trans (hq32 s hs)
  have hq68 : ∀ s, s < 12 → u36[30 + 3 * s]? = some (ad (30 + 3 * s), nO ad s (pn s) (rl s)) := fun s hs => (fr40.at (30 + 3 * s) (by omega)).trans (hq33 s hs)
  have hq69 : ∀ s, s < 12 → u36[31 + 3 * s]? = some (ad (31 + 3 * s), iN K 5 (pi s)) := fun s hs => (fr40.at (31 + 3 * s) (by omega)).trans (hq34 s hs)
  have hq70 : ∀ s, s < 12 → u36[32 + 3 * s]? = some (ad (32 + 3 * s), zA K (2 * n) (ro s)) := fun s hs => (fr40.at (32 + 3 * s) (by omega)).trans (hq35 s hs)
  subst hr41
  refine q_lcmpE hc dL_law_543 (show jZ (((sm hi (2 * n) : Nat) : Int)) = jZ (((sm hi (2 * n) : Nat) : Int)) from rfl) ?_
  refine q_if_eq hc 1036 dL_law_544 (by decide) (by omega) (fun c71 => ?_) (fun c71 => ?_)
  · refine V.widen (k := 79 + 2 * (t + 1)) (n := 8194 + 12 * (t + 1)) (by omega) (by omega) ?_
    refine V.sub [0, 1, 2, 3, 4] rfl ?_
    exact ih nc rc cap us (fun _ => 0) pn rl pi ro _ ⟨0, co, di, tr, rw, mt, md, mk, mq, le, fo, hq42, hq43, hq44, hq45, hq46, hq47, hq48, hq49, hq50, hq51, hq52, hq53, hq54, hq67, hq55, hq68, hq69, hq70, hq38, hq56, hq39, hq57, hq58, hq59, hq60, hq61, hq62, hq63, hq64, hq65, hq66, hrw⟩ (hG9.forget)
  · exact absurd rfl c71

set_option maxRecDepth 100000 in
set_option maxHeartbeats 16000000 in
theorem lw_length {p : Program} {l : Launch} {e : Env} {s : State} {m : MethodId} {below : List Frame} {meth : Method} {c : Code} {b L : Nat} {xs : Nat → Int32} {D : va_G} {K : Nat → ClassId} {ad : Nat → Nat} {w h n c0 : Nat} (hC : LC p l s m c b L xs D K w h n c0) {t : Nat} (ht : 3 + 5 * t + 5 ≤ L) {nc rc : Nat} {cap us hi pn : Nat → Nat} {rl : Nat → Int} {pi : Nat → Nat → Nat} {ro : Nat → Nat → Bool} {ws : va_W} (hF : FW K ad w h n c0 nc rc cap us hi pn rl pi ro ws) (hG : GI n nc rc cap hi pn pi (us, ro, rl) t) (ih : ∀ (nc rc : Nat) (cap us hi pn : Nat → Nat) (rl : Nat → Int) (pi : Nat → Nat → Nat) (ro : Nat → Nat → Bool) (u : va_W), FW K ad w h n c0 nc rc cap us hi pn rl pi ro u → GI n nc rc cap hi pn pi (us, ro, rl) (t + 1) → V p l e room_1 s m #[Value.ref b] below meth c 8 (79 + 2 * (t + 1)) (8194 + 12 * (t + 1)) (lw_Z below #[Value.ref b] s) (hpM D (va_A [] s.heap.size) s.heap) u [(0, .ref b), (1, .ref (ad 0)), (2, .ref (ad 66)), (3, .ref (ad 78)), (4, .int (iZ ((3 + 5 * t : Nat) : Int)))] 1036 []) : V p l e room_1 s m #[Value.ref b] below meth c 8 (79 + 2 * t) (8194 + 12 * t) (lw_Z below #[Value.ref b] s) (hpM D (va_A [] s.heap.size) s.heap) ws [(0, .ref b), (1, .ref (ad 0)), (2, .ref (ad 66)), (3, .ref (ad 78)), (4, .int (iZ ((3 + 5 * t : Nat) : Int)))] 549 [] := by
  obtain ⟨hc, hXE, hX, hbl, hl, hWH, hc0, hL⟩ := hC
  have hbA : ¬ va_A [] s.heap.size b := no_A hbl
  have hF9 := hF; have hG9 := hG
  obtain ⟨th, co, di, tr, rw, mt, md, mk, mq, le, fo, h0, h1, h2, h3, h4, h5, h6, h7, h8, h9, h10, h11, h12, hR, h29, hN, hP, hO, h66, m67, m68, m69, m70, m71, m72, m73, m74, m75, m76, m77, h78, hrw⟩ := hF
  obtain ⟨hnc, hcap, hhb, hpn0, hpin0, hpif0, hRI, hrc⟩ := hG
  have hn := hWH.le; have hw2 := hWH.1; have hxy := hWH.xy; have hNB := NB_W hWH
  have hw : 0 < w ∧ w ≤ 8 ∧ h ≤ 8 := ⟨by omega, by omega, by omega⟩
  have hI := hRI.1; have hUC : UC n nc us ro := hI.1; have hR0 : RO0 n nc ro rl := hI.2.1; have hRL : RLc n nc ro rl := hRI.2.1; have hrl : ∀ j, j < nc → -1 ≤ rl j ∧ rl j ≤ 128 := hI.2.2; have hus : ∀ k, k < 2 * n → us k ≤ 12 := hI.us hnc
  have hhi : ∀ k, k < 2 * n → hi k ≤ 5120 := fun k hk => by have h9 := hhb k hk; omega
  have hpn : ∀ j, j < nc → pn j ≤ 5 := fun j _ => hpn0 j
  have hpin : ∀ j k, j < nc → k < pn j → pi j k < n := fun j k _ hk => hpin0 j k hk
  have hpif : ∀ j k, j < nc → pi j k < 64 := fun j k _ => hpif0 j k
  obtain ⟨a1, ha1, hr1⟩ : ∃ a9 : Int, (xs (3 + 5 * t + 1)).toInt = a9 ∧ (-2147483648 ≤ a9 ∧ a9 < 2147483648) := ⟨_, rfl, iZ_rng _⟩
  obtain ⟨a2, ha2, hr2⟩ : ∃ a9 : Int, (xs (3 + 5 * t + 2)).toInt = a9 ∧ (-2147483648 ≤ a9 ∧ a9 < 2147483648) := ⟨_, rfl, iZ_rng _⟩
  obtain ⟨a3, ha3, hr3⟩ : ∃ a9 : Int, (xs (3 + 5 * t + 3)).toInt = a9 ∧ (-2147483648 ≤ a9 ∧ a9 < 2147483648) := ⟨_, rfl, iZ_rng _⟩
  obtain ⟨a4, ha4, hr4⟩ : ∃ a9 : Int, (xs (3 + 5 * t + 4)).toInt = a9 ∧ (-2147483648 ≤ a9 ∧ a9 < 2147483648) := ⟨_, rfl, iZ_rng _⟩
  refine q_aload_n hc 1 dL_law_549 rfl ?_
  refine q_aload_n hc 0 dL_law_550 rfl ?_
  refine q_iload hc 4 dL_law_551 rfl ?_
  refine q_iconstN hc 1 dL_law_553 rfl ?_
  refine q_iaddN hc dL_law_554 ?_
  refine q_sld (j := 3 + 5 * t + 1) hc hX hbl hbA rfl (by omega) (by omega) dL_law_555 ?_
  refine V.topi (show _ = a1 from ha1) ?_
  refine q_aload_n hc 3 dL_law_556 rfl ?_
  refine q_callLi (As := [.ref (ad 0), .int (iZ a1), .ref (ad 78)]) (rest := []) hc hXE (c_L_length l hl D K ws ad nc rc a1 pn rl fo h0 h29 hN h78 hnc hr1) (vx_cwSW 3 hc.1.2.2.2.2 gL_law_L_length rfl rfl rfl (by decide +kernel) ⟨Nat.le_of_ble_eq_true rfl, Nat.le_of_ble_eq_true rfl⟩) rfl rfl (by decide) dL_law_557 ⟨(show _ ≤ 601024 by omega), (show _ ≤ 7293000 by omega)⟩ (fun r u hp' => ?_)
  rcases hp' with ⟨hr9, hx1, hq2, fr3⟩ | ⟨hr9, x0, hw9⟩
  · subst hr9
    have hq4 := (fr3.at 0 (by omega)).trans h0
    have hq5 := (fr3.at 1 (by omega)).trans h1
    have hq6 := (fr3.at 2 (by omega)).trans h2
    have hq7 := (fr3.at 3 (by omega)).trans h3
    have hq8 := (fr3.at 4 (by omega)).trans h4
    have hq9 := (fr3.at 5 (by omega)).trans h5
    have hq10 := (fr3.at 6 (by omega)).trans h6
    have hq11 := (fr3.at 7 (by omega)).trans h7
    have hq12 := (fr3.at 8 (by omega)).trans h8
    have hq13 := (fr3.at 9 (by omega)).trans h9
    have hq14 := (fr3.at 10 (by omega)).trans h10
    have hq15 := (fr3.at 11 (by omega)).trans h11
    have hq16 := (fr3.at 12 (by omega)).trans h12
    have hq17 := (fr3.at 29 (by omega)).trans h29
    have hq18 := (fr3.at 66 (by omega)).trans h66
    have hq19 := (fr3.at 67 (by omega)).trans m67
    have hq20 := (fr3.at 68 (by omega)).trans m68
    have hq21 := (fr3.at 69 (by omega)).trans m69
    have hq22 := (fr3.at 70 (by omega)).trans m70
    have hq23 := (fr3.at 71 (by omega)).trans m71
    have hq24 := (fr3.at 72 (by omega)).trans m72
    have hq25 := (fr3.at 73 (by omega)).trans m73
    have hq26 := (fr3.at 74 (by omega)).trans m74
    have hq27 := (fr3.at 75 (by omega)).trans m75
    have hq28 := (fr3.at 76 (by omega)).trans m76
    have hq29 := (fr3.at 77 (by omega)).trans m77
    have hq30 : ∀ s, s < 16 → u[13 + s]? = some (ad (13 + s), iN K n (rw s)) := fun s hs => (fr3.at (13 + s) (by omega)).trans (hR s hs)
    have hq31 : ∀ s, s < 12 → u[30 + 3 * s]? = some (ad (30 + 3 * s), nO ad s (pn s) (rl s)) := fun s hs => (fr3.at (30 + 3 * s) (by omega)).trans (hN s hs)
    have hq32 : ∀ s, s < 12 → u[31 + 3 * s]? = some (ad (31 + 3 * s), iN K 5 (pi s)) := fun s hs => (fr3.at (31 + 3 * s) (by omega)).trans (hP s hs)
    have hq33 : ∀ s, s < 12 → u[32 + 3 * s]? = some (ad (32 + 3 * s), zA K (2 * n) (ro s)) := fun s hs => (fr3.at (32 + 3 * s) (by omega)).trans (hO s hs)
    refine q_istore hc [(5, .int (iZ ((0 : Nat) : Int))), (0, .ref b), (1, .ref (ad 0)), (2, .ref (ad 66)), (3, .ref (ad 78)), (4, .int (iZ ((3 + 5 * t : Nat) : Int)))] dL_law_560 (by decide) rfl ?_
    refine q_aload_n hc 3 dL_law_562 rfl ?_
    refine q_aload_n hc 1 dL_law_563 rfl ?_
    refine q_iload hc 5 dL_law_564 rfl ?_
    refine q_iconstN hc 1 dL_law_566 rfl ?_
    refine q_iaddN hc dL_law_567 ?_
    refine q_sld (j := 3 + 5 * t + 1) hc hX hbl hbA rfl (by omega) (by omega) dL_law_568 ?_
    refine V.topi (show _ = a1 from ha1) ?_
    refine q_callMi (As := [.int (iZ a1)]) (rest := []) hc (c_X5_length l D K u ad w h n th nc rc a1 rl ro hq18 hq23 hq24 hnc hr1 hn hx1 hRL) (cwV 1 hc.1.2.2.2.2 gL_law_X5_length rfl rfl rfl (by decide +kernel) ⟨Nat.le_of_ble_eq_true rfl, Nat.le_of_ble_eq_true rfl⟩) 66 hq18 rfl rfl rfl (by decide) dL_law_569 ⟨(show _ ≤ 601024 by omega), (show _ ≤ 7293000 by omega)⟩ (fun r35 u34 hp' => ?_)
    obtain ⟨hr38, hq36, fr37⟩ := hp'
    have hq39 := (fr37.at 0 (by omega)).trans hq4
    have hq40 := (fr37.at 1 (by omega)).trans hq5
    have hq41 := (fr37.at 2 (by omega)).trans hq6
    have hq42 := (fr37.at 3 (by omega)).trans hq7
    have hq43 := (fr37.at 4 (by omega)).trans hq8
    have hq44 := (fr37.at 5 (by omega)).trans hq9
    have hq45 := (fr37.at 6 (by omega)).trans hq10
    have hq46 := (fr37.at 7 (by omega)).trans hq11
    have hq47 := (fr37.at 8 (by omega)).trans hq12
    have hq48 := (fr37.at 9 (by omega)).trans hq13
    have hq49 := (fr37.at 10 (by omega)).trans hq14
    have hq50 := (fr37.at 11 (by omega)).trans hq15
    have hq51 := (fr37.at 12 (by omega)).trans hq16
    have hq52 := (fr37.at 29 (by omega)).trans hq17
    have hq53 := (fr37.at 67 (by omega)).trans hq19
    have hq54 := (fr37.at 68 (by omega)).trans hq20
    have hq55 := (fr37.at 69 (by omega)).trans hq21
    have hq56 := (fr37.at 70 (by omega)).trans hq22
    have hq57 := (fr37.at 71 (by omega)).trans hq23
    have hq58 := (fr37.at 72 (by omega)).trans hq24
    have hq59 := (fr37.at 73 (by omega)).trans hq25
    have hq60 := (fr37.at 74 (by omega)).trans hq26
    have hq61 := (fr37.at 75 (by omega)).trans hq27
    have hq62 := (fr37.at 76 (by omega)).trans hq28
    have hq63 := (fr37.at 77 (by omega)).trans hq29
    have hq64 := (fr37.at 78 (by omega)).trans hq2
    have hq65 : ∀ s, s < 16 → u34[13 + s]? = some (ad (13 + s), iN K n (rw s)) := fun s hs => (fr37.at (13 + s) (by omega)).trans (hq30 s hs)
    have hq66 : ∀ s, s < 12 → u34[30 + 3 * s]? = some (ad (30 + 3 * s), nO ad s (pn s) (rl s)) := fun s hs => (fr37.at (30 + 3 * s) (by omega)).trans (hq31 s hs)
    have hq67 : ∀ s, s < 12 → u34[31 + 3 * s]? = some (ad (31 + 3 * s), iN K 5 (pi s)) := fun s hs => (fr37.at (31 + 3 * s) (by omega)).trans (hq32 s hs)
    have hq68 : ∀ s, s < 12 → u34[32 + 3 * s]? = some (ad (32 + 3 * s), zA K (2 * n) (ro s)) := fun s hs => (fr37.at (32 + 3 * s) (by omega)).trans (hq33 s hs)
    subst hr38
    refine q_istore hc [(6, .int (iZ (rl a1.toNat))), (5, .int (iZ ((0 : Nat) : Int))), (0, .ref b), (1, .ref (ad 0)), (2, .ref (ad 66)), (3, .ref (ad 78)), (4, .int (iZ ((3 + 5 * t : Nat) : Int)))] dL_law_572 (by decide) rfl ?_
    refine q_aload_n hc 4 dL_law_574 rfl ?_
    refine q_callPn (As := []) (rest := []) hc (c_X5_thrown l D K u34 ad w h 0 nc rc hq36 ) (cwV 0 hc.1.2.2.2.2 gL_law_X5_thrown rfl rfl rfl (by decide +kernel) ⟨Nat.le_of_ble_eq_true rfl, Nat.le_of_ble_eq_true rfl⟩) 66 hq36 rfl rfl rfl (by decide) dL_law_575 ⟨(show _ ≤ 601024 by omega), (show _ ≤ 7293000 by omega)⟩ ?_
    refine q_iload hc 1 dL_law_578 rfl ?_
    refine q_icmpN_eq hc 585 dL_law_580 (by decide) (by omega) (by omega) (fun c71 => ?_) (fun c71 => ?_)
    · refine q_iload hc 1 dL_law_585 rfl ?_
      refine q_if_ne hc 602 dL_law_587 (by decide) (by omega) (fun c72 => ?_) (fun c72 => ?_)
      · exact absurd rfl c72
      · refine q_aload_n hc 5 dL_law_590 rfl ?_
        refine q_iconstN hc 0 dL_law_591 rfl ?_
        refine q_lald (j := 0) hc 78 hq64 rfl (by omega) (by omega) dL_law_592 ?_
        refine V.topj (show _ = (iZ (rl a1.toNat)).toInt from by rw [va_up_self]) ?_
        refine q_iload hc 0 dL_law_593 rfl ?_
        refine q_i2lw hc dL_law_595 ?_
        refine q_lcmpE hc dL_law_596 (show jZ ((iZ (rl a1.toNat)).toInt) = jZ ((iZ (rl a1.toNat)).toInt) from rfl) ?_
        refine q_if_eq hc 602 dL_law_597 (by decide) (by omega) (fun c73 => ?_) (fun c73 => ?_)
        · refine q_goto hc 1036 dL_law_602 (by decide) ?_
          refine V.widen (k := 79 + 2 * (t + 1)) (n := 8194 + 12 * (t + 1)) (by omega) (by omega) ?_
          refine V.sub [2, 3, 4, 5, 6] rfl ?_
          exact ih nc rc cap us hi pn rl pi ro _ ⟨0, co, di, tr, rw, mt, md, mk, mq, le, va_up fo 0 ((iZ (rl a1.toNat)).toInt), hq39, hq40, hq41, hq42, hq43, hq44, hq45, hq46, hq47, hq48, hq49, hq50, hq51, hq65, hq52, hq66, hq67, hq68, hq36, hq53, hq54, hq55, hq56, hq57, hq58, hq59, hq60, hq61, hq62, hq63, hq64, hrw⟩ (hG9.mono)
        · exact absurd rfl c73
    · exact absurd rfl c71
  · subst hw9; subst hr9
    refine q_istore hc [(5, .int (iZ ((1 : Nat) : Int))), (0, .ref b), (1, .ref (ad 0)), (2, .ref (ad 66)), (3, .ref (ad 78)), (4, .int (iZ ((3 + 5 * t : Nat) : Int)))] dL_law_560 (by decide) rfl ?_
    refine q_aload_n hc 3 dL_law_562 rfl ?_
    refine q_aload_n hc 1 dL_law_563 rfl ?_
    refine q_iload hc 5 dL_law_564 rfl ?_
    refine q_iconstN hc 1 dL_law_566 rfl ?_
    refine q_iaddN hc dL_law_567 ?_
    refine q_sld (j := 3 + 5 * t + 1) hc hX hbl hbA rfl (by omega) (by omega) dL_law_568 ?_
    refine V.topi (show _ = a1 from ha1) ?_
    refine q_callMi (As := [.int (iZ a1)]) (rest := []) hc (c_X5_length_e1 l D K ws ad w h th nc rc a1 h66 hnc hr1 x0) (cwV 1 hc.1.2.2.2.2 gL_law_X5_length rfl rfl rfl (by decide +kernel) ⟨Nat.le_of_ble_eq_true rfl, Nat.le_of_ble_eq_true rfl⟩) 66 h66 rfl rfl rfl (by decide) dL_law_569 ⟨(show _ ≤ 601024 by omega), (show _ ≤ 7293000 by omega)⟩ (fun r75 u74 hp' => ?_)
    obtain ⟨hr78, hq76, fr77⟩ := hp'
    have hq79 := (fr77.at 0 (by omega)).trans h0
    have hq80 := (fr77.at 1 (by omega)).trans h1
    have hq81 := (fr77.at 2 (by omega)).trans h2
    have hq82 := (fr77.at 3 (by omega)).trans h3
    have hq83 := (fr77.at 4 (by omega)).trans h4
    have hq84 := (fr77.at 5 (by omega)).trans h5
    have hq85 := (fr77.at 6 (by omega)).trans h6
    have hq86 := (fr77.at 7 (by omega)).trans h7
    have hq87 := (fr77.at 8 (by omega)).trans h8
    have hq88 := (fr77.at 9 (by omega)).trans h9
    have hq89 := (fr77.at 10 (by omega)).trans h10
    have hq90 := (fr77.at 11 (by omega)).trans h11
    have hq91 := (fr77.at 12 (by omega)).trans h12
    have hq92 := (fr77.at 29 (by omega)).trans h29
    have hq93 := (fr77.at 67 (by omega)).trans m67
    have hq94 := (fr77.at 68 (by omega)).trans m68
    have hq95 := (fr77.at 69 (by omega)).trans m69
    have hq96 := (fr77.at 70 (by omega)).trans m70
    have hq97 := (fr77.at 71 (by omega)).trans m71
    have hq98 := (fr77.at 72 (by omega)).trans m72
    have hq99 := (fr77.at 73 (by omega)).trans m73
    have hq100 := (fr77.at 74 (by omega)).trans m74
    have hq101 := (fr77.at 75 (by omega)).trans m75
    have hq102 := (fr77.at 76 (by omega)).trans m76
    have hq103 := (fr77.at 77 (by omega)).trans m77
    have hq104 := (fr77.at 78 (by omega)).trans h78
    have hq105 : ∀ s, s < 16 → u74[13 + s]? = some (ad (13 + s), iN K n (rw s)) := fun s hs => (fr77.at (13 + s) (by omega)).trans (hR s hs)
    have hq106 : ∀ s, s < 12 → u74[30 + 3 * s]? = some (ad (30 + 3 * s), nO ad s (pn s) (rl s)) := fun s hs => (fr77.at (30 + 3 * s) (by omega)).trans (hN s hs)
    have hq107 : ∀ s, s < 12 → u74[31 + 3 * s]? = some (ad (31 + 3 * s), iN K 5 (pi s)) := fun s hs => (fr77.at (31 + 3 * s) (by omega)).trans (hP s hs)
    have hq108 : ∀ s, s < 12 → u74[32 + 3 * s]? = some (ad (32 + 3 * s), zA K (2 * n) (ro s)) := fun s hs => (fr77.at (32 + 3 * s) (by omega)).trans (hO s hs)
    subst hr78
    refine q_istore hc [(6, .int (iZ ((0 : Nat) : Int))), (5, .int (iZ ((1 : Nat) : Int))), (0, .ref b), (1, .ref (ad 0)), (2, .ref (ad 66)), (3, .ref (ad 78)), (4, .int (iZ ((3 + 5 * t : Nat) : Int)))] dL_law_572 (by decide) rfl ?_
    refine q_aload_n hc 4 dL_law_574 rfl ?_
    refine q_callPn (As := []) (rest := []) hc (c_X5_thrown l D K u74 ad w h 1 nc rc hq76 ) (cwV 0 hc.1.2.2.2.2 gL_law_X5_thrown rfl rfl rfl (by decide +kernel) ⟨Nat.le_of_ble_eq_true rfl, Nat.le_of_ble_eq_true rfl⟩) 66 hq76 rfl rfl rfl (by decide) dL_law_575 ⟨(show _ ≤ 601024 by omega), (show _ ≤ 7293000 by omega)⟩ ?_
    refine q_iload hc 1 dL_law_578 rfl ?_
    refine q_icmpN_eq hc 585 dL_law_580 (by decide) (by omega) (by omega) (fun c111 => ?_) (fun c111 => ?_)
    · refine q_iload hc 1 dL_law_585 rfl ?_
      refine q_if_ne hc 602 dL_law_587 (by decide) (by omega) (fun c112 => ?_) (fun c112 => ?_)
      · refine q_goto hc 1036 dL_law_602 (by decide) ?_
        refine V.widen (k := 79 + 2 * (t + 1)) (n := 8194 + 12 * (t + 1)) (by omega) (by omega) ?_
        refine V.sub [2, 3, 4, 5, 6] rfl ?_
        exact ih nc rc cap us hi pn rl pi ro _ ⟨1, co, di, tr, rw, mt, md, mk, mq, le, fo, hq79, hq80, hq81, hq82, hq83, hq84, hq85, hq86, hq87, hq88, hq89, hq90, hq91, hq105, hq92, hq106, hq107, hq108, hq76, hq93, hq94, hq95, hq96, hq97, hq98, hq99, hq100, hq101, hq102, hq103, hq104, hrw⟩ (hG9.mono)
      · exact absurd c112 (by decide)
    · exact absurd rfl c111
