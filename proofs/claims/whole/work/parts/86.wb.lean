set_option maxRecDepth 100000 in
set_option maxHeartbeats 16000000 in
theorem lw_pin {p : Program} {l : Launch} {e : Env} {s : State} {m : MethodId} {below : List Frame} {meth : Method} {c : Code} {b L : Nat} {xs : Nat → Int32} {D : va_G} {K : Nat → ClassId} {ad : Nat → Nat} {w h n c0 : Nat} (hC : LC p l s m c b L xs D K w h n c0) {t : Nat} (ht : 3 + 5 * t + 5 ≤ L) {nc rc : Nat} {cap us hi pn : Nat → Nat} {rl : Nat → Int} {pi : Nat → Nat → Nat} {ro : Nat → Nat → Bool} {ws : va_W} (hF : FW K ad w h n c0 nc rc cap us hi pn rl pi ro ws) (hG : GI n nc rc cap hi pn pi (us, ro, rl) t) (ih : ∀ (nc rc : Nat) (cap us hi pn : Nat → Nat) (rl : Nat → Int) (pi : Nat → Nat → Nat) (ro : Nat → Nat → Bool) (u : va_W), FW K ad w h n c0 nc rc cap us hi pn rl pi ro u → GI n nc rc cap hi pn pi (us, ro, rl) (t + 1) → V p l e room_1 s m #[Value.ref b] below meth c 8 (79 + 2 * (t + 1)) (8194 + 12 * (t + 1)) (lw_Z below #[Value.ref b] s) (hpM D (va_A [] s.heap.size) s.heap) u [(0, .ref b), (1, .ref (ad 0)), (2, .ref (ad 66)), (3, .ref (ad 78)), (4, .int (iZ ((3 + 5 * t : Nat) : Int)))] 1036 []) : V p l e room_1 s m #[Value.ref b] below meth c 8 (79 + 2 * t) (8194 + 12 * t) (lw_Z below #[Value.ref b] s) (hpM D (va_A [] s.heap.size) s.heap) ws [(0, .ref b), (1, .ref (ad 0)), (2, .ref (ad 66)), (3, .ref (ad 78)), (4, .int (iZ ((3 + 5 * t : Nat) : Int)))] 288 [] := by
  obtain ⟨hc, hXE, hX, hbl, hl, hWH, hc0, hL⟩ := hC
  have hbA : ¬ va_A [] s.heap.size b := no_A hbl
  have hF9 := hF; have hG9 := hG
  obtain ⟨th, co, di, tr, rw, mt, md, mk, mq, le, fo, h0, h1, h2, h3, h4, h5, h6, h7, h8, h9, h10, h11, h12, hR, h29, hN, hP, hO, h66, m67, m68, m69, m70, m71, m72, m73, m74, m75, m76, m77, h78, hrw⟩ := hF
  obtain ⟨hnc, hcap, hhb, hpn0, hpin0, hpif0, hRI, hrc⟩ := hG
  have hn := hWH.le; have hw2 := hWH.1; have hxy := hWH.xy; have hNB := NB_W hWH
  have hw : 0 < w ∧ w ≤ 8 ∧ h ≤ 8 := ⟨by omega, by omega, by omega⟩
  have hI := hRI.1; have hUC : UC n nc us ro := hI.1; have hR0 : RO0 n nc ro rl := hI.2.1; have hRL : RLc n nc ro rl := hRI.2.1; have hrl : ∀ j, j < nc → -1 ≤ rl j ∧ rl j ≤ 128 := hI.2.2; have hus : ∀ k, k < 2 * n → us k ≤ 12 := hI.us hnc
  have hhi : ∀ k, k < 2 * n → hi k ≤ 5120 := fun k hk => by have h9 := hhb k hk; omega
  have hpn : ∀ j, j < nc → pn j ≤ 5 := fun j _ => hpn0 j
  have hpin : ∀ j k, j < nc → k < pn j → pi j k < n := fun j k _ hk => hpin0 j k hk
  have hpif : ∀ j k, j < nc → pi j k < 64 := fun j k _ => hpif0 j k
  obtain ⟨a1, ha1, hr1⟩ : ∃ a9 : Int, (xs (3 + 5 * t + 1)).toInt = a9 ∧ (-2147483648 ≤ a9 ∧ a9 < 2147483648) := ⟨_, rfl, iZ_rng _⟩
  obtain ⟨a2, ha2, hr2⟩ : ∃ a9 : Int, (xs (3 + 5 * t + 2)).toInt = a9 ∧ (-2147483648 ≤ a9 ∧ a9 < 2147483648) := ⟨_, rfl, iZ_rng _⟩
  obtain ⟨a3, ha3, hr3⟩ : ∃ a9 : Int, (xs (3 + 5 * t + 3)).toInt = a9 ∧ (-2147483648 ≤ a9 ∧ a9 < 2147483648) := ⟨_, rfl, iZ_rng _⟩
  obtain ⟨a4, ha4, hr4⟩ : ∃ a9 : Int, (xs (3 + 5 * t + 4)).toInt = a9 ∧ (-2147483648 ≤ a9 ∧ a9 < 2147483648) := ⟨_, rfl, iZ_rng _⟩
  refine q_aload_n hc 1 dL_law_288 rfl ?_
  refine q_aload_n hc 0 dL_law_289 rfl ?_
  refine q_iload hc 4 dL_law_290 rfl ?_
  refine q_iconstN hc 1 dL_law_292 rfl ?_
  refine q_iaddN hc dL_law_293 ?_
  refine q_sld (j := 3 + 5 * t + 1) hc hX hbl hbA rfl (by omega) (by omega) dL_law_294 ?_
  refine V.topi (show _ = a1 from ha1) ?_
  refine q_aload_n hc 0 dL_law_295 rfl ?_
  refine q_iload hc 4 dL_law_296 rfl ?_
  refine q_iconstN hc 2 dL_law_298 rfl ?_
  refine q_iaddN hc dL_law_299 ?_
  refine q_sld (j := 3 + 5 * t + 2) hc hX hbl hbA rfl (by omega) (by omega) dL_law_300 ?_
  refine V.topi (show _ = a2 from ha2) ?_
  refine q_aload_n hc 0 dL_law_301 rfl ?_
  refine q_iload hc 4 dL_law_302 rfl ?_
  refine q_iconstN hc 3 dL_law_304 rfl ?_
  refine q_iaddN hc dL_law_305 ?_
  refine q_sld (j := 3 + 5 * t + 3) hc hX hbl hbA rfl (by omega) (by omega) dL_law_306 ?_
  refine V.topi (show _ = a3 from ha3) ?_
  refine q_aload_n hc 3 dL_law_307 rfl ?_
  refine q_callLi (As := [.ref (ad 0), .int (iZ a1), .int (iZ a2), .int (iZ a3), .ref (ad 78)]) (rest := []) hc hXE (c_L_pin l hl D K ws ad nc rc a1 a2 a3 w h n us pn rl pi ro fo h0 h1 h3 h29 hN hP hO h78 hnc hr1 hr2 hr3 hn hw hxy hpn hpif hI) (vx_cwSW 5 hc.1.2.2.2.2 gL_law_L_pin rfl rfl rfl (by decide +kernel) ⟨Nat.le_of_ble_eq_true rfl, Nat.le_of_ble_eq_true rfl⟩) rfl rfl (by decide) dL_law_308 ⟨(show _ ≤ 601024 by omega), (show _ ≤ 7293000 by omega)⟩ (fun r u hp' => ?_)
  rcases hp' with ⟨hr9, hx1, hx2, hx3, hx4, hq5, hq6, hq7, hq8, hq9, fr10⟩ | ⟨hr9, x0, hw9⟩ | ⟨hr9, x0, x1, hw9⟩ | ⟨hr9, x0, x1, x2, hw9⟩ | ⟨hr9, x0, x1, x2, x3, hw9⟩
  · subst hr9
    have hq11 := (fr10.at 0 (by omega)).trans h0
    have hq12 := (fr10.at 1 (by omega)).trans h1
    have hq13 := (fr10.at 2 (by omega)).trans h2
    have hq14 := (fr10.at 4 (by omega)).trans h4
    have hq15 := (fr10.at 5 (by omega)).trans h5
    have hq16 := (fr10.at 6 (by omega)).trans h6
    have hq17 := (fr10.at 7 (by omega)).trans h7
    have hq18 := (fr10.at 8 (by omega)).trans h8
    have hq19 := (fr10.at 9 (by omega)).trans h9
    have hq20 := (fr10.at 10 (by omega)).trans h10
    have hq21 := (fr10.at 11 (by omega)).trans h11
    have hq22 := (fr10.at 12 (by omega)).trans h12
    have hq23 := (fr10.at 29 (by omega)).trans h29
    have hq24 := (fr10.at 66 (by omega)).trans h66
    have hq25 := (fr10.at 67 (by omega)).trans m67
    have hq26 := (fr10.at 68 (by omega)).trans m68
    have hq27 := (fr10.at 69 (by omega)).trans m69
    have hq28 := (fr10.at 70 (by omega)).trans m70
    have hq29 := (fr10.at 71 (by omega)).trans m71
    have hq30 := (fr10.at 72 (by omega)).trans m72
    have hq31 := (fr10.at 73 (by omega)).trans m73
    have hq32 := (fr10.at 74 (by omega)).trans m74
    have hq33 := (fr10.at 75 (by omega)).trans m75
    have hq34 := (fr10.at 76 (by omega)).trans m76
    have hq35 := (fr10.at 77 (by omega)).trans m77
    have hq36 : ∀ s, s < 16 → u[13 + s]? = some (ad (13 + s), iN K n (rw s)) := fun s hs => (fr10.at (13 + s) (by omega)).trans (hR s hs)
    refine q_istore hc [(5, .int (iZ ((0 : Nat) : Int))), (0, .ref b), (1, .ref (ad 0)), (2, .ref (ad 66)), (3, .ref (ad 78)), (4, .int (iZ ((3 + 5 * t : Nat) : Int)))] dL_law_311 (by decide) rfl ?_
    refine q_aload_n hc 3 dL_law_313 rfl ?_
    refine q_aload_n hc 1 dL_law_314 rfl ?_
    refine q_iload hc 5 dL_law_315 rfl ?_
    refine q_iconstN hc 1 dL_law_317 rfl ?_
    refine q_iaddN hc dL_law_318 ?_
    refine q_sld (j := 3 + 5 * t + 1) hc hX hbl hbA rfl (by omega) (by omega) dL_law_319 ?_
    refine V.topi (show _ = a1 from ha1) ?_
    refine q_aload_n hc 1 dL_law_320 rfl ?_
    refine q_iload hc 5 dL_law_321 rfl ?_
    refine q_iconstN hc 2 dL_law_323 rfl ?_
    refine q_iaddN hc dL_law_324 ?_
    refine q_sld (j := 3 + 5 * t + 2) hc hX hbl hbA rfl (by omega) (by omega) dL_law_325 ?_
    refine V.topi (show _ = a2 from ha2) ?_
    refine q_aload_n hc 1 dL_law_326 rfl ?_
    refine q_iload hc 5 dL_law_327 rfl ?_
    refine q_iconstN hc 3 dL_law_329 rfl ?_
    refine q_iaddN hc dL_law_330 ?_
    refine q_sld (j := 3 + 5 * t + 3) hc hX hbl hbA rfl (by omega) (by omega) dL_law_331 ?_
    refine V.topi (show _ = a3 from ha3) ?_
    refine q_callMi (As := [.int (iZ a1), .int (iZ a2), .int (iZ a3)]) (rest := []) hc (c_X5_pin l D K u ad w h n th nc rc a1 a2 a3 pn rl pi ro hq24 hq27 hq28 hq29 hq30 hnc hr1 hr2 hr3 hn hw2 hxy hpn hpif hx1 hx2 hx3 hx4) (cwV 3 hc.1.2.2.2.2 gL_law_X5_pin rfl rfl rfl (by decide +kernel) ⟨Nat.le_of_ble_eq_true rfl, Nat.le_of_ble_eq_true rfl⟩) 66 hq24 rfl rfl rfl (by decide) dL_law_332 ⟨(show _ ≤ 601024 by omega), (show _ ≤ 7293000 by omega)⟩ (fun r38 u37 hp' => ?_)
    obtain ⟨hr45, hq39, hq40, hq41, hq42, hq43, fr44⟩ := hp'
    have hq46 := (fr44.at 0 (by omega)).trans hq11
    have hq47 := (fr44.at 1 (by omega)).trans hq12
    have hq48 := (fr44.at 2 (by omega)).trans hq13
    have hq49 := (fr44.at 3 (by omega)).trans hq5
    have hq50 := (fr44.at 4 (by omega)).trans hq14
    have hq51 := (fr44.at 5 (by omega)).trans hq15
    have hq52 := (fr44.at 6 (by omega)).trans hq16
    have hq53 := (fr44.at 7 (by omega)).trans hq17
    have hq54 := (fr44.at 8 (by omega)).trans hq18
    have hq55 := (fr44.at 9 (by omega)).trans hq19
    have hq56 := (fr44.at 10 (by omega)).trans hq20
    have hq57 := (fr44.at 11 (by omega)).trans hq21
    have hq58 := (fr44.at 12 (by omega)).trans hq22
    have hq59 := (fr44.at 29 (by omega)).trans hq23
    have hq60 := (fr44.at 67 (by omega)).trans hq25
    have hq61 := (fr44.at 68 (by omega)).trans hq26
    have hq62 := (fr44.at 73 (by omega)).trans hq31
    have hq63 := (fr44.at 74 (by omega)).trans hq32
    have hq64 := (fr44.at 75 (by omega)).trans hq33
    have hq65 := (fr44.at 76 (by omega)).trans hq34
    have hq66 := (fr44.at 77 (by omega)).trans hq35
    have hq67 := (fr44.at 78 (by omega)).trans hq9
    have hq68 : ∀ s, s < 16 → u37[13 + s]? = some (ad (13 + s), iN K n (rw s)) := fun s hs => (fr44.at (13 + s) (by omega)).trans (hq36 s hs)
    have hq69 : ∀ s, s < 12 → u37[30 + 3 * s]? = some (ad (30 + 3 * s), nO ad s ((va_up pn a1.toNat (pn a1.toNat + 1)) s) ((va_up rl a1.toNat (-1)) s)) := fun s hs => (fr44.at (30 + 3 * s) (by omega)).trans (hq6 s hs)
    have hq70 : ∀ s, s < 12 → u37[31 + 3 * s]? = some (ad (31 + 3 * s), iN K 5 ((va_up pi a1.toNat (va_up (pi a1.toNat) (pn a1.toNat) (a2.toNat + w * a3.toNat))) s)) := fun s hs => (fr44.at (31 + 3 * s) (by omega)).trans (hq7 s hs)
    have hq71 : ∀ s, s < 12 → u37[32 + 3 * s]? = some (ad (32 + 3 * s), zA K (2 * n) ((va_up ro a1.toNat (fun _ => false)) s)) := fun s hs => (fr44.at (32 + 3 * s) (by omega)).trans (hq8 s hs)
    subst hr45
    refine q_istore hc [(6, .int (iZ ((pn a1.toNat + 1 : Nat) : Int))), (5, .int (iZ ((0 : Nat) : Int))), (0, .ref b), (1, .ref (ad 0)), (2, .ref (ad 66)), (3, .ref (ad 78)), (4, .int (iZ ((3 + 5 * t : Nat) : Int)))] dL_law_335 (by decide) rfl ?_
    refine q_aload_n hc 4 dL_law_337 rfl ?_
    refine q_callPn (As := []) (rest := []) hc (c_X5_thrown l D K u37 ad w h 0 nc rc hq39 ) (cwV 0 hc.1.2.2.2.2 gL_law_X5_thrown rfl rfl rfl (by decide +kernel) ⟨Nat.le_of_ble_eq_true rfl, Nat.le_of_ble_eq_true rfl⟩) 66 hq39 rfl rfl rfl (by decide) dL_law_338 ⟨(show _ ≤ 601024 by omega), (show _ ≤ 7293000 by omega)⟩ ?_
    refine q_iload hc 1 dL_law_341 rfl ?_
    refine q_icmpN_eq hc 348 dL_law_343 (by decide) (by omega) (by omega) (fun c74 => ?_) (fun c74 => ?_)
    · refine q_iload hc 1 dL_law_348 rfl ?_
      refine q_if_ne hc 365 dL_law_350 (by decide) (by omega) (fun c75 => ?_) (fun c75 => ?_)
      · exact absurd rfl c75
      · refine q_aload_n hc 5 dL_law_353 rfl ?_
        refine q_iconstN hc 0 dL_law_354 rfl ?_
        refine q_lald (j := 0) hc 78 hq67 rfl (by omega) (by omega) dL_law_355 ?_
        refine V.topj (show _ = (iZ ((pn a1.toNat + 1 : Nat) : Int)).toInt from by rw [va_up_self]) ?_
        refine q_iload hc 0 dL_law_356 rfl ?_
        refine q_i2lw hc dL_law_358 ?_
        refine q_lcmpE hc dL_law_359 (show jZ ((iZ ((pn a1.toNat + 1 : Nat) : Int)).toInt) = jZ ((iZ ((pn a1.toNat + 1 : Nat) : Int)).toInt) from rfl) ?_
        refine q_if_eq hc 365 dL_law_360 (by decide) (by omega) (fun c76 => ?_) (fun c76 => ?_)
        · refine q_goto hc 1036 dL_law_365 (by decide) ?_
          refine V.widen (k := 79 + 2 * (t + 1)) (n := 8194 + 12 * (t + 1)) (by omega) (by omega) ?_
          refine V.sub [2, 3, 4, 5, 6] rfl ?_
          exact ih nc rc cap (sbU us (ro a1.toNat)) hi (va_up pn a1.toNat (pn a1.toNat + 1)) (va_up rl a1.toNat (-1)) (va_up pi a1.toNat (va_up (pi a1.toNat) (pn a1.toNat) (a2.toNat + w * a3.toNat))) (va_up ro a1.toNat (fun _ => false)) _ ⟨0, co, di, tr, rw, mt, md, mk, mq, le, va_up fo 0 ((iZ ((pn a1.toNat + 1 : Nat) : Int)).toInt), hq46, hq47, hq48, hq49, hq50, hq51, hq52, hq53, hq54, hq55, hq56, hq57, hq58, hq68, hq59, hq69, hq70, hq71, hq39, hq60, hq61, hq40, hq41, hq43, hq42, hq62, hq63, hq64, hq65, hq66, hq67, hrw⟩ (hG9.pin hn (by have h9 := hx1; omega) (hxy a2.toNat a3.toNat (by have h9 := hx2; omega) (by have h9 := hx2; omega)) hx4)
        · exact absurd rfl c76
    · exact absurd rfl c74
  · subst hw9; subst hr9
    refine q_istore hc [(5, .int (iZ ((1 : Nat) : Int))), (0, .ref b), (1, .ref (ad 0)), (2, .ref (ad 66)), (3, .ref (ad 78)), (4, .int (iZ ((3 + 5 * t : Nat) : Int)))] dL_law_311 (by decide) rfl ?_
    refine q_aload_n hc 3 dL_law_313 rfl ?_
    refine q_aload_n hc 1 dL_law_314 rfl ?_
    refine q_iload hc 5 dL_law_315 rfl ?_
    refine q_iconstN hc 1 dL_law_317 rfl ?_
    refine q_iaddN hc dL_law_318 ?_
    refine q_sld (j := 3 + 5 * t + 1) hc hX hbl hbA rfl (by omega) (by omega) dL_law_319 ?_
    refine V.topi (show _ = a1 from ha1) ?_
    refine q_aload_n hc 1 dL_law_320 rfl ?_
    refine q_iload hc 5 dL_law_321 rfl ?_
    refine q_iconstN hc 2 dL_law_323 rfl ?_
    refine q_iaddN hc dL_law_324 ?_
    refine q_sld (j := 3 + 5 * t + 2) hc hX hbl hbA rfl (by omega) (by omega) dL_law_325 ?_
    refine V.topi (show _ = a2 from ha2) ?_
    refine q_aload_n hc 1 dL_law_326 rfl ?_
    refine q_iload hc 5 dL_law_327 rfl ?_
    refine q_iconstN hc 3 dL_law_329 rfl ?_
    refine q_iaddN hc dL_law_330 ?_
    refine q_sld (j := 3 + 5 * t + 3) hc hX hbl hbA rfl (by omega) (by omega) dL_law_331 ?_
    refine V.topi (show _ = a3 from ha3) ?_
    refine q_callMi (As := [.int (iZ a1), .int (iZ a2), .int (iZ a3)]) (rest := []) hc (c_X5_pin_e1 l D K ws ad w h th nc rc a1 a2 a3 h66 hnc hr1 x0) (cwV 3 hc.1.2.2.2.2 gL_law_X5_pin rfl rfl rfl (by decide +kernel) ⟨Nat.le_of_ble_eq_true rfl, Nat.le_of_ble_eq_true rfl⟩) 66 h66 rfl rfl rfl (by decide) dL_law_332 ⟨(show _ ≤ 601024 by omega), (show _ ≤ 7293000 by omega)⟩ (fun r78 u77 hp' => ?_)
    obtain ⟨hr81, hq79, fr80⟩ := hp'
    have hq82 := (fr80.at 0 (by omega)).trans h0
    have hq83 := (fr80.at 1 (by omega)).trans h1
    have hq84 := (fr80.at 2 (by omega)).trans h2
    have hq85 := (fr80.at 3 (by omega)).trans h3
    have hq86 := (fr80.at 4 (by omega)).trans h4
    have hq87 := (fr80.at 5 (by omega)).trans h5
    have hq88 := (fr80.at 6 (by omega)).trans h6
    have hq89 := (fr80.at 7 (by omega)).trans h7
    have hq90 := (fr80.at 8 (by omega)).trans h8
    have hq91 := (fr80.at 9 (by omega)).trans h9
    have hq92 := (fr80.at 10 (by omega)).trans h10
    have hq93 := (fr80.at 11 (by omega)).trans h11
    have hq94 := (fr80.at 12 (by omega)).trans h12
    have hq95 := (fr80.at 29 (by omega)).trans h29
    have hq96 := (fr80.at 67 (by omega)).trans m67
    have hq97 := (fr80.at 68 (by omega)).trans m68
    have hq98 := (fr80.at 69 (by omega)).trans m69
    have hq99 := (fr80.at 70 (by omega)).trans m70
    have hq100 := (fr80.at 71 (by omega)).trans m71
    have hq101 := (fr80.at 72 (by omega)).trans m72
    have hq102 := (fr80.at 73 (by omega)).trans m73
    have hq103 := (fr80.at 74 (by omega)).trans m74
    have hq104 := (fr80.at 75 (by omega)).trans m75
    have hq105 := (fr80.at 76 (by omega)).trans m76
    have hq106 := (fr80.at 77 (by omega)).trans m77
    have hq107 := (fr80.at 78 (by omega)).trans h78
    have hq108 : ∀ s, s < 16 → u77[13 + s]? = some (ad (13 + s), iN K n (rw s)) := fun s hs => (fr80.at (13 + s) (by omega)).trans (hR s hs)
    have hq109 : ∀ s, s < 12 → u77[30 + 3 * s]? = some (ad (30 + 3 * s), nO ad s (pn s) (rl s)) := fun s hs => (fr80.at (30 + 3 * s) (by omega)).trans (hN s hs)
    have hq110 : ∀ s, s < 12 → u77[31 + 3 * s]? = some (ad (31 + 3 * s), iN K 5 (pi s)) := fun s hs => (fr80.at (31 + 3 * s) (by omega)).trans (hP s hs)
    have hq111 : ∀ s, s < 12 → u77[32 + 3 * s]? = some (ad (32 + 3 * s), zA K (2 * n) (ro s)) := fun s hs => (fr80.at (32 + 3 * s) (by omega)).trans (hO s hs)
    subst hr81
    refine q_istore hc [(6, .int (iZ ((0 : Nat) : Int))), (5, .int (iZ ((1 : Nat) : Int))), (0, .ref b), (1, .ref (ad 0)), (2, .ref (ad 66)), (3, .ref (ad 78)), (4, .int (iZ ((3 + 5 * t : Nat) : Int)))] dL_law_335 (by decide) rfl ?_
    refine q_aload_n hc 4 dL_law_337 rfl ?_
    refine q_callPn (As := []) (rest := []) hc (c_X5_thrown l D K u77 ad w h 1 nc rc hq79 ) (cwV 0 hc.1.2.2.2.2 gL_law_X5_thrown rfl rfl rfl (by decide +kernel) ⟨Nat.le_of_ble_eq_true rfl, Nat.le_of_ble_eq_true rfl⟩) 66 hq79 rfl rfl rfl (by decide) dL_law_338 ⟨(show _ ≤ 601024 by omega), (show _ ≤ 7293000 by omega)⟩ ?_
    refine q_iload hc 1 dL_law_341 rfl ?_
    refine q_icmpN_eq hc 348 dL_law_343 (by decide) (by omega) (by omega) (fun c114 => ?_) (fun c114 => ?_)
    · refine q_iload hc 1 dL_law_348 rfl ?_
      refine q_if_ne hc 365 dL_law_350 (by decide) (by omega) (fun c115 => ?_) (fun c115 => ?_)
      · refine q_goto hc 1036 dL_law_365 (by decide) ?_
        refine V.widen (k := 79 + 2 * (t + 1)) (n := 8194 + 12 * (t + 1)) (by omega) (by omega) ?_
        refine V.sub [2, 3, 4, 5, 6] rfl ?_
        exact ih nc rc cap us hi pn rl pi ro _ ⟨1, co, di, tr, rw, mt, md, mk, mq, le, fo, hq82, hq83, hq84, hq85, hq86, hq87, hq88, hq89, hq90, hq91, hq92, hq93, hq94, hq108, hq95, hq109, hq110, hq111, hq79, hq96, hq97, hq98, hq99, hq100, hq101, hq102, hq103, hq104, hq105, hq106, hq107, hrw⟩ (hG9.mono)
      · exact absurd c115 (by decide)
    · exact absurd rfl c114
  · subst hw9; subst hr9
    refine q_istore hc [(5, .int (iZ ((2 : Nat) : Int))), (0, .ref b), (1, .ref (ad 0)), (2, .ref (ad 66)), (3, .ref (ad 78)), (4, .int (iZ ((3 + 5 * t : Nat) : Int)))] dL_law_311 (by decide) rfl ?_
    refine q_aload_n hc 3 dL_law_313 rfl ?_
    refine q_aload_n hc 1 dL_law_314 rfl ?_
    refine q_iload hc 5 dL_law_315 rfl ?_
    refine q_iconstN hc 1 dL_law_317 rfl ?_
    refine q_iaddN hc dL_law_318 ?_
    refine q_sld (j := 3 + 5 * t + 1) hc hX hbl hbA rfl (by omega) (by omega) dL_law_319 ?_
    refine V.topi (show _ = a1 from ha1) ?_
    refine q_aload_n hc 1 dL_law_320 rfl ?_
    refine q_iload hc 5 dL_law_321 rfl ?_
    refine q_iconstN hc 2 dL_law_323 rfl ?_
    refine q_iaddN hc dL_law_324 ?_
    refine q_sld (j := 3 + 5 * t + 2) hc hX hbl hbA rfl (by omega) (by omega) dL_law_325 ?_
    refine V.topi (show _ = a2 from ha2) ?_
    refine q_aload_n hc 1 dL_law_326 rfl ?_
    refine q_iload hc 5 dL_law_327 rfl ?_
    refine q_iconstN hc 3 dL_law_329 rfl ?_
    refine q_iaddN hc dL_law_330 ?_
    refine q_sld (j := 3 + 5 * t + 3) hc hX hbl hbA rfl (by omega) (by omega) dL_law_331 ?_
    refine V.topi (show _ = a3 from ha3) ?_
    refine q_callMi (As := [.int (iZ a1), .int (iZ a2), .int (iZ a3)]) (rest := []) hc (c_X5_pin_e2 l D K ws ad w h _ th nc rc a1 a2 a3 pn pi h66 m69 m70 hnc hr1 hr2 hr3 hn hw2 hxy hpn hpif x0 (by rw [decide_eq_false x1]; rfl)) (cwV 3 hc.1.2.2.2.2 gL_law_X5_pin rfl rfl rfl (by decide +kernel) ⟨Nat.le_of_ble_eq_true rfl, Nat.le_of_ble_eq_true rfl⟩) 66 h66 rfl rfl rfl (by decide) dL_law_332 ⟨(show _ ≤ 601024 by omega), (show _ ≤ 7293000 by omega)⟩ (fun r117 u116 hp' => ?_)
    obtain ⟨hr120, hq118, fr119⟩ := hp'
    have hq121 := (fr119.at 0 (by omega)).trans h0
    have hq122 := (fr119.at 1 (by omega)).trans h1
    have hq123 := (fr119.at 2 (by omega)).trans h2
    have hq124 := (fr119.at 3 (by omega)).trans h3
    have hq125 := (fr119.at 4 (by omega)).trans h4
    have hq126 := (fr119.at 5 (by omega)).trans h5
    have hq127 := (fr119.at 6 (by omega)).trans h6
    have hq128 := (fr119.at 7 (by omega)).trans h7
    have hq129 := (fr119.at 8 (by omega)).trans h8
    have hq130 := (fr119.at 9 (by omega)).trans h9
    have hq131 := (fr119.at 10 (by omega)).trans h10
    have hq132 := (fr119.at 11 (by omega)).trans h11
    have hq133 := (fr119.at 12 (by omega)).trans h12
    have hq134 := (fr119.at 29 (by omega)).trans h29
    have hq135 := (fr119.at 67 (by omega)).trans m67
    have hq136 := (fr119.at 68 (by omega)).trans m68
    have hq137 := (fr119.at 69 (by omega)).trans m69
    have hq138 := (fr119.at 70 (by omega)).trans m70
    have hq139 := (fr119.at 71 (by omega)).trans m71
    have hq140 := (fr119.at 72 (by omega)).trans m72
    have hq141 := (fr119.at 73 (by omega)).trans m73
    have hq142 := (fr119.at 74 (by omega)).trans m74
    have hq143 := (fr119.at 75 (by omega)).trans m75
    have hq144 := (fr119.at 76 (by omega)).trans m76
    have hq145 := (fr119.at 77 (by omega)).trans m77
    have hq146 := (fr119.at 78 (by omega)).trans h78
    have hq147 : ∀ s, s < 16 → u116[13 + s]? = some (ad (13 + s), iN K n (rw s)) := fun s hs => (fr119.at (13 + s) (by omega)).trans (hR s hs)
    have hq148 : ∀ s, s < 12 → u116[30 + 3 * s]? = some (ad (30 + 3 * s), nO ad s (pn s) (rl s)) := fun s hs => (fr119.at (30 + 3 * s) (by omega)).trans (hN s hs)
    have hq149 : ∀ s, s < 12 → u116[31 + 3 * s]? = some (ad (31 + 3 * s), iN K 5 (pi s)) := fun s hs => (fr119.at (31 + 3 * s) (by omega)).trans (hP s hs)
    have hq150 : ∀ s, s < 12 → u116[32 + 3 * s]? = some (ad (32 + 3 * s), zA K (2 * n) (ro s)) := fun s hs => (fr119.at (32 + 3 * s) (by omega)).trans (hO s hs)
    subst hr120
    refine q_istore hc [(6, .int (iZ ((0 : Nat) : Int))), (5, .int (iZ ((2 : Nat) : Int))), (0, .ref b), (1, .ref (ad 0)), (2, .ref (ad 66)), (3, .ref (ad 78)), (4, .int (iZ ((3 + 5 * t : Nat) : Int)))] dL_law_335 (by decide) rfl ?_
    refine q_aload_n hc 4 dL_law_337 rfl ?_
    refine q_callPn (As := []) (rest := []) hc (c_X5_thrown l D K u116 ad w h 2 nc rc hq118 ) (cwV 0 hc.1.2.2.2.2 gL_law_X5_thrown rfl rfl rfl (by decide +kernel) ⟨Nat.le_of_ble_eq_true rfl, Nat.le_of_ble_eq_true rfl⟩) 66 hq118 rfl rfl rfl (by decide) dL_law_338 ⟨(show _ ≤ 601024 by omega), (show _ ≤ 7293000 by omega)⟩ ?_
    refine q_iload hc 1 dL_law_341 rfl ?_
    refine q_icmpN_eq hc 348 dL_law_343 (by decide) (by omega) (by omega) (fun c153 => ?_) (fun c153 => ?_)
    · refine q_iload hc 1 dL_law_348 rfl ?_
      refine q_if_ne hc 365 dL_law_350 (by decide) (by omega) (fun c154 => ?_) (fun c154 => ?_)
      · refine q_goto hc 1036 dL_law_365 (by decide) ?_
        refine V.widen (k := 79 + 2 * (t + 1)) (n := 8194 + 12 * (t + 1)) (by omega) (by omega) ?_
        refine V.sub [2, 3, 4, 5, 6] rfl ?_
        exact ih nc rc cap us hi pn rl pi ro _ ⟨2, co, di, tr, rw, mt, md, mk, mq, le, fo, hq121, hq122, hq123, hq124, hq125, hq126, hq127, hq128, hq129, hq130, hq131, hq132, hq133, hq147, hq134, hq148, hq149, hq150, hq118, hq135, hq136, hq137, hq138, hq139, hq140, hq141, hq142, hq143, hq144, hq145, hq146, hrw⟩ (hG9.mono)
      · exact absurd c154 (by decide)
    · exact absurd rfl c153
  · subst hw9; subst hr9
    refine q_istore hc [(5, .int (iZ ((2 : Nat) : Int))), (0, .ref b), (1, .ref (ad 0)), (2, .ref (ad 66)), (3, .ref (ad 78)), (4, .int (iZ ((3 + 5 * t : Nat) : Int)))] dL_law_311 (by decide) rfl ?_
    refine q_aload_n hc 3 dL_law_313 rfl ?_
    refine q_aload_n hc 1 dL_law_314 rfl ?_
    refine q_iload hc 5 dL_law_315 rfl ?_
    refine q_iconstN hc 1 dL_law_317 rfl ?_
    refine q_iaddN hc dL_law_318 ?_
    refine q_sld (j := 3 + 5 * t + 1) hc hX hbl hbA rfl (by omega) (by omega) dL_law_319 ?_
    refine V.topi (show _ = a1 from ha1) ?_
    refine q_aload_n hc 1 dL_law_320 rfl ?_
    refine q_iload hc 5 dL_law_321 rfl ?_
    refine q_iconstN hc 2 dL_law_323 rfl ?_
    refine q_iaddN hc dL_law_324 ?_
    refine q_sld (j := 3 + 5 * t + 2) hc hX hbl hbA rfl (by omega) (by omega) dL_law_325 ?_
    refine V.topi (show _ = a2 from ha2) ?_
    refine q_aload_n hc 1 dL_law_326 rfl ?_
    refine q_iload hc 5 dL_law_327 rfl ?_
    refine q_iconstN hc 3 dL_law_329 rfl ?_
    refine q_iaddN hc dL_law_330 ?_
    refine q_sld (j := 3 + 5 * t + 3) hc hX hbl hbA rfl (by omega) (by omega) dL_law_331 ?_
    refine V.topi (show _ = a3 from ha3) ?_
    refine q_callMi (As := [.int (iZ a1), .int (iZ a2), .int (iZ a3)]) (rest := []) hc (c_X5_pin_e2 l D K ws ad w h _ th nc rc a1 a2 a3 pn pi h66 m69 m70 hnc hr1 hr2 hr3 hn hw2 hxy hpn hpif x0 (by rw [x2]; simp)) (cwV 3 hc.1.2.2.2.2 gL_law_X5_pin rfl rfl rfl (by decide +kernel) ⟨Nat.le_of_ble_eq_true rfl, Nat.le_of_ble_eq_true rfl⟩) 66 h66 rfl rfl rfl (by decide) dL_law_332 ⟨(show _ ≤ 601024 by omega), (show _ ≤ 7293000 by omega)⟩ (fun r156 u155 hp' => ?_)
    obtain ⟨hr159, hq157, fr158⟩ := hp'
    have hq160 := (fr158.at 0 (by omega)).trans h0
    have hq161 := (fr158.at 1 (by omega)).trans h1
    have hq162 := (fr158.at 2 (by omega)).trans h2
    have hq163 := (fr158.at 3 (by omega)).trans h3
    have hq164 := (fr158.at 4 (by omega)).trans h4
    have hq165 := (fr158.at 5 (by omega)).trans h5
    have hq166 := (fr158.at 6 (by omega)).trans h6
    have hq167 := (fr158.at 7 (by omega)).trans h7
    have hq168 := (fr158.at 8 (by omega)).trans h8
    have hq169 := (fr158.at 9 (by omega)).trans h9
    have hq170 := (fr158.at 10 (by omega)).trans h10
    have hq171 := (fr158.at 11 (by omega)).trans h11
    have hq172 := (fr158.at 12 (by omega)).trans h12
    have hq173 := (fr158.at 29 (by omega)).trans h29
    have hq174 := (fr158.at 67 (by omega)).trans m67
    have hq175 := (fr158.at 68 (by omega)).trans m68
    have hq176 := (fr158.at 69 (by omega)).trans m69
    have hq177 := (fr158.at 70 (by omega)).trans m70
    have hq178 := (fr158.at 71 (by omega)).trans m71
    have hq179 := (fr158.at 72 (by omega)).trans m72
    have hq180 := (fr158.at 73 (by omega)).trans m73
    have hq181 := (fr158.at 74 (by omega)).trans m74
    have hq182 := (fr158.at 75 (by omega)).trans m75
    have hq183 := (fr158.at 76 (by omega)).trans m76
    have hq184 := (fr158.at 77 (by omega)).trans m77
    have hq185 := (fr158.at 78 (by omega)).trans h78
    have hq186 : ∀ s, s < 16 → u155[13 + s]? = some (ad (13 + s), iN K n (rw s)) := fun s hs => (fr158.at (13 + s) (by omega)).trans (hR s hs)
    have hq187 : ∀ s, s < 12 → u155[30 + 3 * s]? = some (ad (30 + 3 * s), nO ad s (pn s) (rl s)) := fun s hs => (fr158.at (30 + 3 * s) (by omega)).trans (hN s hs)
    have hq188 : ∀ s, s < 12 → u155[31 + 3 * s]? = some (ad (31 + 3 * s), iN K 5 (pi s)) := fun s hs => (fr158.at (31 + 3 * s) (by omega)).trans (hP s hs)
    have hq189 : ∀ s, s < 12 → u155[32 + 3 * s]? = some (ad (32 + 3 * s), zA K (2 * n) (ro s)) := fun s hs => (fr158.at (32 + 3 * s) (by omega)).trans (hO s hs)
    subst hr159
    refine q_istore hc [(6, .int (iZ ((0 : Nat) : Int))), (5, .int (iZ ((2 : Nat) : Int))), (0, .ref b), (1, .ref (ad 0)), (2, .ref (ad 66)), (3, .ref (ad 78)), (4, .int (iZ ((3 + 5 * t : Nat) : Int)))] dL_law_335 (by decide) rfl ?_
    refine q_aload_n hc 4 dL_law_337 rfl ?_
    refine q_callPn (As := []) (rest := []) hc (c_X5_thrown l D K u155 ad w h 2 nc rc hq157 ) (cwV 0 hc.1.2.2.2.2 gL_law_X5_thrown rfl rfl rfl (by decide +kernel) ⟨Nat.le_of_ble_eq_true rfl, Nat.le_of_ble_eq_true rfl⟩) 66 hq157 rfl rfl rfl (by decide) dL_law_338 ⟨(show _ ≤ 601024 by omega), (show _ ≤ 7293000 by omega)⟩ ?_
    refine q_iload hc 1 dL_law_341 rfl ?_
    refine q_icmpN_eq hc 348 dL_law_343 (by decide) (by omega) (by omega) (fun c192 => ?_) (fun c192 => ?_)
    · refine q_iload hc 1 dL_law_348 rfl ?_
      refine q_if_ne hc 365 dL_law_350 (by decide) (by omega) (fun c193 => ?_) (fun c193 => ?_)
      · refine q_goto hc 1036 dL_law_365 (by decide) ?_
        refine V.widen (k := 79 + 2 * (t + 1)) (n := 8194 + 12 * (t + 1)) (by omega) (by omega) ?_
        refine V.sub [2, 3, 4, 5, 6] rfl ?_
        exact ih nc rc cap us hi pn rl pi ro _ ⟨2, co, di, tr, rw, mt, md, mk, mq, le, fo, hq160, hq161, hq162, hq163, hq164, hq165, hq166, hq167, hq168, hq169, hq170, hq171, hq172, hq186, hq173, hq187, hq188, hq189, hq157, hq174, hq175, hq176, hq177, hq178, hq179, hq180, hq181, hq182, hq183, hq184, hq185, hrw⟩ (hG9.mono)
      · exact absurd c193 (by decide)
    · exact absurd rfl c192
  · subst hw9; subst hr9
    refine q_istore hc [(5, .int (iZ ((3 : Nat) : Int))), (0, .ref b), (1, .ref (ad 0)), (2, .ref (ad 66)), (3, .ref (ad 78)), (4, .int (iZ ((3 + 5 * t : Nat) : Int)))] dL_law_311 (by decide) rfl ?_
    refine q_aload_n hc 3 dL_law_313 rfl ?_
    refine q_aload_n hc 1 dL_law_314 rfl ?_
    refine q_iload hc 5 dL_law_315 rfl ?_
    refine q_iconstN hc 1 dL_law_317 rfl ?_
    refine q_iaddN hc dL_law_318 ?_
    refine q_sld (j := 3 + 5 * t + 1) hc hX hbl hbA rfl (by omega) (by omega) dL_law_319 ?_
    refine V.topi (show _ = a1 from ha1) ?_
    refine q_aload_n hc 1 dL_law_320 rfl ?_
    refine q_iload hc 5 dL_law_321 rfl ?_
    refine q_iconstN hc 2 dL_law_323 rfl ?_
    refine q_iaddN hc dL_law_324 ?_
    refine q_sld (j := 3 + 5 * t + 2) hc hX hbl hbA rfl (by omega) (by omega) dL_law_325 ?_
    refine V.topi (show _ = a2 from ha2) ?_
    refine q_aload_n hc 1 dL_law_326 rfl ?_
    refine q_iload hc 5 dL_law_327 rfl ?_
    refine q_iconstN hc 3 dL_law_329 rfl ?_
    refine q_iaddN hc dL_law_330 ?_
    refine q_sld (j := 3 + 5 * t + 3) hc hX hbl hbA rfl (by omega) (by omega) dL_law_331 ?_
    refine V.topi (show _ = a3 from ha3) ?_
    refine q_callMi (As := [.int (iZ a1), .int (iZ a2), .int (iZ a3)]) (rest := []) hc (c_X5_pin_e3 l D K ws ad w h _ th nc rc a1 a2 a3 pn pi h66 m69 m70 hnc hr1 hr2 hr3 hn hw2 hxy hpn hpif x0 x1 x2 x3) (cwV 3 hc.1.2.2.2.2 gL_law_X5_pin rfl rfl rfl (by decide +kernel) ⟨Nat.le_of_ble_eq_true rfl, Nat.le_of_ble_eq_true rfl⟩) 66 h66 rfl rfl rfl (by decide) dL_law_332 ⟨(show _ ≤ 601024 by omega), (show _ ≤ 7293000 by omega)⟩ (fun r195 u194 hp' => ?_)
    obtain ⟨hr198, hq196, fr197⟩ := hp'
    have hq199 := (fr197.at 0 (by omega)).trans h0
    have hq200 := (fr197.at 1 (by omega)).trans h1
    have hq201 := (fr197.at 2 (by omega)).trans h2
    have hq202 := (fr197.at 3 (by omega)).trans h3
    have hq203 := (fr197.at 4 (by omega)).trans h4
    have hq204 := (fr197.at 5 (by omega)).trans h5
    have hq205 := (fr197.at 6 (by omega)).trans h6
    have hq206 := (fr197.at 7 (by omega)).trans h7
    have hq207 := (fr197.at 8 (by omega)).trans h8
    have hq208 := (fr197.at 9 (by omega)).trans h9
    have hq209 := (fr197.at 10 (by omega)).trans h10
    have hq210 := (fr197.at 11 (by omega)).trans h11
    have hq211 := (fr197.at 12 (by omega)).trans h12
    have hq212 := (fr197.at 29 (by omega)).trans h29
    have hq213 := (fr197.at 67 (by omega)).trans m67
    have hq214 := (fr197.at 68 (by omega)).trans m68
    have hq215 := (fr197.at 69 (by omega)).trans m69
    have hq216 := (fr197.at 70 (by omega)).trans m70
    have hq217 := (fr197.at 71 (by omega)).trans m71
    have hq218 := (fr197.at 72 (by omega)).trans m72
    have hq219 := (fr197.at 73 (by omega)).trans m73
    have hq220 := (fr197.at 74 (by omega)).trans m74
    have hq221 := (fr197.at 75 (by omega)).trans m75
    have hq222 := (fr197.at 76 (by omega)).trans m76
    have hq223 := (fr197.at 77 (by omega)).trans m77
    have hq224 := (fr197.at 78 (by omega)).trans h78
    have hq225 : ∀ s, s < 16 → u194[13 + s]? = some (ad (13 + s), iN K n (rw s)) := fun s hs => (fr197.at (13 + s) (by omega)).trans (hR s hs)
    have hq226 : ∀ s, s < 12 → u194[30 + 3 * s]? = some (ad (30 + 3 * s), nO ad s (pn s) (rl s)) := fun s hs => (fr197.at (30 + 3 * s) (by omega)).trans (hN s hs)
    have hq227 : ∀ s, s < 12 → u194[31 + 3 * s]? = some (ad (31 + 3 * s), iN K 5 (pi s)) := fun s hs => (fr197.at (31 + 3 * s) (by omega)).trans (hP s hs)
    have hq228 : ∀ s, s < 12 → u194[32 + 3 * s]? = some (ad (32 + 3 * s), zA K (2 * n) (ro s)) := fun s hs => (fr197.at (32 + 3 * s) (by omega)).trans (hO s hs)
    subst hr198
    refine q_istore hc [(6, .int (iZ ((0 : Nat) : Int))), (5, .int (iZ ((3 : Nat) : Int))), (0, .ref b), (1, .ref (ad 0)), (2, .ref (ad 66)), (3, .ref (ad 78)), (4, .int (iZ ((3 + 5 * t : Nat) : Int)))] dL_law_335 (by decide) rfl ?_
    refine q_aload_n hc 4 dL_law_337 rfl ?_
    refine q_callPn (As := []) (rest := []) hc (c_X5_thrown l D K u194 ad w h 3 nc rc hq196 ) (cwV 0 hc.1.2.2.2.2 gL_law_X5_thrown rfl rfl rfl (by decide +kernel) ⟨Nat.le_of_ble_eq_true rfl, Nat.le_of_ble_eq_true rfl⟩) 66 hq196 rfl rfl rfl (by decide) dL_law_338 ⟨(show _ ≤ 601024 by omega), (show _ ≤ 7293000 by omega)⟩ ?_
    refine q_iload hc 1 dL_law_341 rfl ?_
    refine q_icmpN_eq hc 348 dL_law_343 (by decide) (by omega) (by omega) (fun c231 => ?_) (fun c231 => ?_)
    · refine q_iload hc 1 dL_law_348 rfl ?_
      refine q_if_ne hc 365 dL_law_350 (by decide) (by omega) (fun c232 => ?_) (fun c232 => ?_)
      · refine q_goto hc 1036 dL_law_365 (by decide) ?_
        refine V.widen (k := 79 + 2 * (t + 1)) (n := 8194 + 12 * (t + 1)) (by omega) (by omega) ?_
        refine V.sub [2, 3, 4, 5, 6] rfl ?_
        exact ih nc rc cap us hi pn rl pi ro _ ⟨3, co, di, tr, rw, mt, md, mk, mq, le, fo, hq199, hq200, hq201, hq202, hq203, hq204, hq205, hq206, hq207, hq208, hq209, hq210, hq211, hq225, hq212, hq226, hq227, hq228, hq196, hq213, hq214, hq215, hq216, hq217, hq218, hq219, hq220, hq221, hq222, hq223, hq224, hrw⟩ (hG9.mono)
      · exact absurd c232 (by decide)
    · exact absurd rfl c231
