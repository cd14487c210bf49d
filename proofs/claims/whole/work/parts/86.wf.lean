set_option maxRecDepth 100000 in
set_option maxHeartbeats 16000000 in
theorem lw_least {p : Program} {l : Launch} {e : Env} {s : State} {m : MethodId} {below : List Frame} {meth : Method} {c : Code} {b L : Nat} {xs : Nat → Int32} {D : va_G} {K : Nat → ClassId} {ad : Nat → Nat} {w h n c0 : Nat} (hC : LC p l s m c b L xs D K w h n c0) {t : Nat} (ht : 3 + 5 * t + 5 ≤ L) {nc rc : Nat} {cap us hi pn : Nat → Nat} {rl : Nat → Int} {pi : Nat → Nat → Nat} {ro : Nat → Nat → Bool} {ws : va_W} (hF : FW K ad w h n c0 nc rc cap us hi pn rl pi ro ws) (hG : GI n nc rc cap hi pn pi (us, ro, rl) t) (ih : ∀ (nc rc : Nat) (cap us hi pn : Nat → Nat) (rl : Nat → Int) (pi : Nat → Nat → Nat) (ro : Nat → Nat → Bool) (u : va_W), FW K ad w h n c0 nc rc cap us hi pn rl pi ro u → GI n nc rc cap hi pn pi (us, ro, rl) (t + 1) → V p l e room_1 s m #[Value.ref b] below meth c 8 (79 + 2 * (t + 1)) (8194 + 12 * (t + 1)) (lw_Z below #[Value.ref b] s) (hpM D (va_A [] s.heap.size) s.heap) u [(0, .ref b), (1, .ref (ad 0)), (2, .ref (ad 66)), (3, .ref (ad 78)), (4, .int (iZ ((3 + 5 * t : Nat) : Int)))] 1036 []) : V p l e room_1 s m #[Value.ref b] below meth c 8 (79 + 2 * t) (8194 + 12 * t) (lw_Z below #[Value.ref b] s) (hpM D (va_A [] s.heap.size) s.heap) ws [(0, .ref b), (1, .ref (ad 0)), (2, .ref (ad 66)), (3, .ref (ad 78)), (4, .int (iZ ((3 + 5 * t : Nat) : Int)))] 605 [] := by
  obtain ⟨hc, hXE, hX, hbl, hl, hWH, hc0, hL⟩ := hC
  have hbA : ¬ va_A [] s.heap.size b := no_A hbl
  have hF9 := hF; have hG9 := hG
  obtain ⟨th, co, di, tr, rw, mt, md, mk, mq, le, fo, h0, h1, h2, h3, h4, h5, h6, h7, h8, h9, h10, h11, h12, hR, h29, hN, hP, hO, h66, m67, m68, m69, m70, m71, m72, m73, m74, m75, m76, m77, h78, hrw⟩ := hF
  obtain ⟨hnc, hcap, hhb, hpn0, hpin0, hpif0, hRI, hrc⟩ := hG
  have hn := hWH.le; have hw2 := hWH.1; have hxy := hWH.xy; have hNB := NB_W hWH
  have hw : 0 < w ∧ w ≤ 8 ∧ h ≤ 8 := ⟨by omega, by omega, by omega⟩
  have hI := hRI.1; have hUC : UC n nc us ro := hI.1; have hR0 : RO0 n nc ro rl := hI.2.1; have hRL : RLc n nc ro rl := hRI.2.1; have hrl : ∀ j, j < nc → -1 ≤ rl j ∧ rl j ≤ 128 := hI.2.2; have hus : ∀ k, k < 2 * n → us k ≤ 12 := hI.us hnc
  have hhi : ∀ k, k < 2 * n → hi k ≤ 5120 := fun k hk => by have h9 := hhb k hk; omega
  have hpn : ∀ j, j < nc → pn j ≤ 5 := fun j _ => hpn0 j
  have hpin : ∀ j k, j < nc → k < pn j → pi j k < n := fun j k _ hk => hpin0 j k hk
  have hpif : ∀ j k, j < nc → pi j k < 64 := fun j k _ => hpif0 j k
  obtain ⟨a1, ha1, hr1⟩ : ∃ a9 : Int, (xs (3 + 5 * t + 1)).toInt = a9 ∧ (-2147483648 ≤ a9 ∧ a9 < 2147483648) := ⟨_, rfl, iZ_rng _⟩
  obtain ⟨a2, ha2, hr2⟩ : ∃ a9 : Int, (xs (3 + 5 * t + 2)).toInt = a9 ∧ (-2147483648 ≤ a9 ∧ a9 < 2147483648) := ⟨_, rfl, iZ_rng _⟩
  obtain ⟨a3, ha3, hr3⟩ : ∃ a9 : Int, (xs (3 + 5 * t + 3)).toInt = a9 ∧ (-2147483648 ≤ a9 ∧ a9 < 2147483648) := ⟨_, rfl, iZ_rng _⟩
  obtain ⟨a4, ha4, hr4⟩ : ∃ a9 : Int, (xs (3 + 5 * t + 4)).toInt = a9 ∧ (-2147483648 ≤ a9 ∧ a9 < 2147483648) := ⟨_, rfl, iZ_rng _⟩
  refine q_aload_n hc 1 dL_law_605 rfl ?_
  refine q_aload_n hc 0 dL_law_606 rfl ?_
  refine q_iload hc 4 dL_law_607 rfl ?_
  refine q_iconstN hc 1 dL_law_609 rfl ?_
  refine q_iaddN hc dL_law_610 ?_
  refine q_sld (j := 3 + 5 * t + 1) hc hX hbl hbA rfl (by omega) (by omega) dL_law_611 ?_
  refine V.topi (show _ = a1 from ha1) ?_
  refine q_aload_n hc 3 dL_law_612 rfl ?_
  refine q_callLi (As := [.ref (ad 0), .int (iZ a1), .ref (ad 78)]) (rest := []) hc hXE (c_L_least l hl D K ws ad nc rc a1 w h n pn rl pi (nbW w h) (btW w h) rw fo h0 h1 h5 h11 h12 hR h29 hN hP h78 hnc hr1 hn hw hNB hpn hpin hpif hrw) (vx_cwSW 3 hc.1.2.2.2.2 gL_law_L_least rfl rfl rfl (by decide +kernel) ⟨Nat.le_of_ble_eq_true rfl, Nat.le_of_ble_eq_true rfl⟩) rfl rfl (by decide) dL_law_613 ⟨(show _ ≤ 601024 by omega), (show _ ≤ 7293000 by omega)⟩ (fun r u hp' => ?_)
  rcases hp' with ⟨hr9, hx1, hq2, hq3, fr4⟩ | ⟨hr9, x0, hw9⟩
  · subst hr9
    have hq5 := (fr4.at 0 (by omega)).trans h0
    have hq6 := (fr4.at 1 (by omega)).trans h1
    have hq7 := (fr4.at 2 (by omega)).trans h2
    have hq8 := (fr4.at 3 (by omega)).trans h3
    have hq9 := (fr4.at 4 (by omega)).trans h4
    have hq10 := (fr4.at 5 (by omega)).trans h5
    have hq11 := (fr4.at 6 (by omega)).trans h6
    have hq12 := (fr4.at 7 (by omega)).trans h7
    have hq13 := (fr4.at 8 (by omega)).trans h8
    have hq14 := (fr4.at 9 (by omega)).trans h9
    have hq15 := (fr4.at 10 (by omega)).trans h10
    have hq16 := (fr4.at 11 (by omega)).trans h11
    have hq17 := (fr4.at 12 (by omega)).trans h12
    have hq18 := (fr4.at 29 (by omega)).trans h29
    have hq19 := (fr4.at 66 (by omega)).trans h66
    have hq20 := (fr4.at 67 (by omega)).trans m67
    have hq21 := (fr4.at 68 (by omega)).trans m68
    have hq22 := (fr4.at 69 (by omega)).trans m69
    have hq23 := (fr4.at 70 (by omega)).trans m70
    have hq24 := (fr4.at 71 (by omega)).trans m71
    have hq25 := (fr4.at 72 (by omega)).trans m72
    have hq26 := (fr4.at 73 (by omega)).trans m73
    have hq27 := (fr4.at 74 (by omega)).trans m74
    have hq28 := (fr4.at 75 (by omega)).trans m75
    have hq29 := (fr4.at 76 (by omega)).trans m76
    have hq30 := (fr4.at 77 (by omega)).trans m77
    have hq31 : ∀ s, s < 12 → u[30 + 3 * s]? = some (ad (30 + 3 * s), nO ad s (pn s) (rl s)) := fun s hs => (fr4.at (30 + 3 * s) (by omega)).trans (hN s hs)
    have hq32 : ∀ s, s < 12 → u[31 + 3 * s]? = some (ad (31 + 3 * s), iN K 5 (pi s)) := fun s hs => (fr4.at (31 + 3 * s) (by omega)).trans (hP s hs)
    have hq33 : ∀ s, s < 12 → u[32 + 3 * s]? = some (ad (32 + 3 * s), zA K (2 * n) (ro s)) := fun s hs => (fr4.at (32 + 3 * s) (by omega)).trans (hO s hs)
    have hrw9 := lsR_bd (nb := nbW w h) (n := n) (pn := pn a1.toNat) (pi := pi a1.toNat) ⟨hw.1, hw.2.1⟩ hn (fun k => hpif0 a1.toNat k) hrw
    refine q_istore hc [(5, .int (iZ ((0 : Nat) : Int))), (0, .ref b), (1, .ref (ad 0)), (2, .ref (ad 66)), (3, .ref (ad 78)), (4, .int (iZ ((3 + 5 * t : Nat) : Int)))] dL_law_616 (by decide) rfl ?_
    refine q_aload_n hc 3 dL_law_618 rfl ?_
    refine q_aload_n hc 1 dL_law_619 rfl ?_
    refine q_iload hc 5 dL_law_620 rfl ?_
    refine q_iconstN hc 1 dL_law_622 rfl ?_
    refine q_iaddN hc dL_law_623 ?_
    refine q_sld (j := 3 + 5 * t + 1) hc hX hbl hbA rfl (by omega) (by omega) dL_law_624 ?_
    refine V.topi (show _ = a1 from ha1) ?_
    refine q_callMi (As := [.int (iZ a1)]) (rest := []) hc (c_X5_least l D K u ad a1 w h _ th nc rc pn pi le rw hq19 hq22 hq23 hq30 hWH hnc hr1 hpn hpin hx1) (cwV 1 hc.1.2.2.2.2 gL_law_X5_least rfl rfl rfl (by decide +kernel) ⟨Nat.le_of_ble_eq_true rfl, Nat.le_of_ble_eq_true rfl⟩) 66 hq19 rfl rfl rfl (by decide) dL_law_625 ⟨(show _ ≤ 601024 by omega), (show _ ≤ 7293000 by omega)⟩ (fun r35 u34 hp' => ?_)
    obtain ⟨x36, hr37, hq38, hq39, fr40⟩ := hp'
    have hq41 := (fr40.at 0 (by omega)).trans hq5
    have hq42 := (fr40.at 1 (by omega)).trans hq6
    have hq43 := (fr40.at 2 (by omega)).trans hq7
    have hq44 := (fr40.at 3 (by omega)).trans hq8
    have hq45 := (fr40.at 4 (by omega)).trans hq9
    have hq46 := (fr40.at 5 (by omega)).trans hq10
    have hq47 := (fr40.at 6 (by omega)).trans hq11
    have hq48 := (fr40.at 7 (by omega)).trans hq12
    have hq49 := (fr40.at 8 (by omega)).trans hq13
    have hq50 := (fr40.at 9 (by omega)).trans hq14
    have hq51 := (fr40.at 10 (by omega)).trans hq15
    have hq52 := (fr40.at 11 (by omega)).trans hq16
    have hq53 := (fr40.at 12 (by omega)).trans hq17
    have hq54 := (fr40.at 29 (by omega)).trans hq18
    have hq55 := (fr40.at 67 (by omega)).trans hq20
    have hq56 := (fr40.at 68 (by omega)).trans hq21
    have hq57 := (fr40.at 69 (by omega)).trans hq22
    have hq58 := (fr40.at 70 (by omega)).trans hq23
    have hq59 := (fr40.at 71 (by omega)).trans hq24
    have hq60 := (fr40.at 72 (by omega)).trans hq25
    have hq61 := (fr40.at 73 (by omega)).trans hq26
    have hq62 := (fr40.at 74 (by omega)).trans hq27
    have hq63 := (fr40.at 75 (by omega)).trans hq28
    have hq64 := (fr40.at 76 (by omega)).trans hq29
    have hq65 := (fr40.at 78 (by omega)).trans hq3
    have hq66 : ∀ s, s < 12 → u34[30 + 3 * s]? = some (ad (30 + 3 * s), nO ad s (pn s) (rl s)) := fun s hs => (fr40.at (30 + 3 * s) (by omega)).trans (hq31 s hs)
    have hq67 : ∀ s, s < 12 → u34[31 + 3 * s]? = some (ad (31 + 3 * s), iN K 5 (pi s)) := fun s hs => (fr40.at (31 + 3 * s) (by omega)).trans (hq32 s hs)
    have hq68 : ∀ s, s < 12 → u34[32 + 3 * s]? = some (ad (32 + 3 * s), zA K (2 * n) (ro s)) := fun s hs => (fr40.at (32 + 3 * s) (by omega)).trans (hq33 s hs)
    have hq69 : ∀ s, s < 16 → u34[13 + s]? = some (ad (13 + s), iN K n ((lsR (nbW w h) w n (pn a1.toNat) (pi a1.toNat) rw) s)) := fun s hs => (fr40.at (13 + s) (by omega)).trans (hq2 s hs)
    subst hr37
    refine q_istore hc [(6, .int (iZ ((lsV (nbW w h) w n (pn a1.toNat) (pi a1.toNat) rw : Nat) : Int))), (5, .int (iZ ((0 : Nat) : Int))), (0, .ref b), (1, .ref (ad 0)), (2, .ref (ad 66)), (3, .ref (ad 78)), (4, .int (iZ ((3 + 5 * t : Nat) : Int)))] dL_law_628 (by decide) rfl ?_
    refine q_aload_n hc 4 dL_law_630 rfl ?_
    refine q_callPn (As := []) (rest := []) hc (c_X5_thrown l D K u34 ad w h 0 nc rc hq38 ) (cwV 0 hc.1.2.2.2.2 gL_law_X5_thrown rfl rfl rfl (by decide +kernel) ⟨Nat.le_of_ble_eq_true rfl, Nat.le_of_ble_eq_true rfl⟩) 66 hq38 rfl rfl rfl (by decide) dL_law_631 ⟨(show _ ≤ 601024 by omega), (show _ ≤ 7293000 by omega)⟩ ?_
    refine q_iload hc 1 dL_law_634 rfl ?_
    refine q_icmpN_eq hc 641 dL_law_636 (by decide) (by omega) (by omega) (fun c72 => ?_) (fun c72 => ?_)
    · refine q_iload hc 1 dL_law_641 rfl ?_
      refine q_if_ne hc 658 dL_law_643 (by decide) (by omega) (fun c73 => ?_) (fun c73 => ?_)
      · exact absurd rfl c73
      · refine q_aload_n hc 5 dL_law_646 rfl ?_
        refine q_iconstN hc 0 dL_law_647 rfl ?_
        refine q_lald (j := 0) hc 78 hq65 rfl (by omega) (by omega) dL_law_648 ?_
        refine V.topj (show _ = (iZ ((lsV (nbW w h) w n (pn a1.toNat) (pi a1.toNat) rw : Nat) : Int)).toInt from by rw [va_up_self]) ?_
        refine q_iload hc 0 dL_law_649 rfl ?_
        refine q_i2lw hc dL_law_651 ?_
        refine q_lcmpE hc dL_law_652 (show jZ ((iZ ((lsV (nbW w h) w n (pn a1.toNat) (pi a1.toNat) rw : Nat) : Int)).toInt) = jZ ((iZ ((lsV (nbW w h) w n (pn a1.toNat) (pi a1.toNat) rw : Nat) : Int)).toInt) from rfl) ?_
        refine q_if_eq hc 658 dL_law_653 (by decide) (by omega) (fun c74 => ?_) (fun c74 => ?_)
        · refine q_goto hc 1036 dL_law_658 (by decide) ?_
          refine V.widen (k := 79 + 2 * (t + 1)) (n := 8194 + 12 * (t + 1)) (by omega) (by omega) ?_
          refine V.sub [2, 3, 4, 5, 6] rfl ?_
          exact ih nc rc cap us hi pn rl pi ro _ ⟨0, co, di, tr, lsR (nbW w h) w n (pn a1.toNat) (pi a1.toNat) rw, mt, md, mk, mq, x36, va_up fo 0 ((iZ ((lsV (nbW w h) w n (pn a1.toNat) (pi a1.toNat) rw : Nat) : Int)).toInt), hq41, hq42, hq43, hq44, hq45, hq46, hq47, hq48, hq49, hq50, hq51, hq52, hq53, hq69, hq54, hq66, hq67, hq68, hq38, hq55, hq56, hq57, hq58, hq59, hq60, hq61, hq62, hq63, hq64, hq39, hq65, hrw9⟩ (hG9.mono)
        · exact absurd rfl c74
    · exact absurd rfl c72
  · subst hw9; subst hr9
    refine q_istore hc [(5, .int (iZ ((1 : Nat) : Int))), (0, .ref b), (1, .ref (ad 0)), (2, .ref (ad 66)), (3, .ref (ad 78)), (4, .int (iZ ((3 + 5 * t : Nat) : Int)))] dL_law_616 (by decide) rfl ?_
    refine q_aload_n hc 3 dL_law_618 rfl ?_
    refine q_aload_n hc 1 dL_law_619 rfl ?_
    refine q_iload hc 5 dL_law_620 rfl ?_
    refine q_iconstN hc 1 dL_law_622 rfl ?_
    refine q_iaddN hc dL_law_623 ?_
    refine q_sld (j := 3 + 5 * t + 1) hc hX hbl hbA rfl (by omega) (by omega) dL_law_624 ?_
    refine V.topi (show _ = a1 from ha1) ?_
    refine q_callMi (As := [.int (iZ a1)]) (rest := []) hc (c_X5_least_e1 l D K ws ad w h th nc rc a1 h66 hnc hr1 x0) (cwV 1 hc.1.2.2.2.2 gL_law_X5_least rfl rfl rfl (by decide +kernel) ⟨Nat.le_of_ble_eq_true rfl, Nat.le_of_ble_eq_true rfl⟩) 66 h66 rfl rfl rfl (by decide) dL_law_625 ⟨(show _ ≤ 601024 by omega), (show _ ≤ 7293000 by omega)⟩ (fun r76 u75 hp' => ?_)
    obtain ⟨hr79, hq77, fr78⟩ := hp'
    have hq80 := (fr78.at 0 (by omega)).trans h0
    have hq81 := (fr78.at 1 (by omega)).trans h1
    have hq82 := (fr78.at 2 (by omega)).trans h2
    have hq83 := (fr78.at 3 (by omega)).trans h3
    have hq84 := (fr78.at 4 (by omega)).trans h4
    have hq85 := (fr78.at 5 (by omega)).trans h5
    have hq86 := (fr78.at 6 (by omega)).trans h6
    have hq87 := (fr78.at 7 (by omega)).trans h7
    have hq88 := (fr78.at 8 (by omega)).trans h8
    have hq89 := (fr78.at 9 (by omega)).trans h9
    have hq90 := (fr78.at 10 (by omega)).trans h10
    have hq91 := (fr78.at 11 (by omega)).trans h11
    have hq92 := (fr78.at 12 (by omega)).trans h12
    have hq93 := (fr78.at 29 (by omega)).trans h29
    have hq94 := (fr78.at 67 (by omega)).trans m67
    have hq95 := (fr78.at 68 (by omega)).trans m68
    have hq96 := (fr78.at 69 (by omega)).trans m69
    have hq97 := (fr78.at 70 (by omega)).trans m70
    have hq98 := (fr78.at 71 (by omega)).trans m71
    have hq99 := (fr78.at 72 (by omega)).trans m72
    have hq100 := (fr78.at 73 (by omega)).trans m73
    have hq101 := (fr78.at 74 (by omega)).trans m74
    have hq102 := (fr78.at 75 (by omega)).trans m75
    have hq103 := (fr78.at 76 (by omega)).trans m76
    have hq104 := (fr78.at 77 (by omega)).trans m77
    have hq105 := (fr78.at 78 (by omega)).trans h78
    have hq106 : ∀ s, s < 16 → u75[13 + s]? = some (ad (13 + s), iN K n (rw s)) := fun s hs => (fr78.at (13 + s) (by omega)).trans (hR s hs)
    have hq107 : ∀ s, s < 12 → u75[30 + 3 * s]? = some (ad (30 + 3 * s), nO ad s (pn s) (rl s)) := fun s hs => (fr78.at (30 + 3 * s) (by omega)).trans (hN s hs)
    have hq108 : ∀ s, s < 12 → u75[31 + 3 * s]? = some (ad (31 + 3 * s), iN K 5 (pi s)) := fun s hs => (fr78.at (31 + 3 * s) (by omega)).trans (hP s hs)
    have hq109 : ∀ s, s < 12 → u75[32 + 3 * s]? = some (ad (32 + 3 * s), zA K (2 * n) (ro s)) := fun s hs => (fr78.at (32 + 3 * s) (by omega)).trans (hO s hs)
    subst hr79
    refine q_istore hc [(6, .int (iZ ((0 : Nat) : Int))), (5, .int (iZ ((1 : Nat) : Int))), (0, .ref b), (1, .ref (ad 0)), (2, .ref (ad 66)), (3, .ref (ad 78)), (4, .int (iZ ((3 + 5 * t : Nat) : Int)))] dL_law_628 (by decide) rfl ?_
    refine q_aload_n hc 4 dL_law_630 rfl ?_
    refine q_callPn (As := []) (rest := []) hc (c_X5_thrown l D K u75 ad w h 1 nc rc hq77 ) (cwV 0 hc.1.2.2.2.2 gL_law_X5_thrown rfl rfl rfl (by decide +kernel) ⟨Nat.le_of_ble_eq_true rfl, Nat.le_of_ble_eq_true rfl⟩) 66 hq77 rfl rfl rfl (by decide) dL_law_631 ⟨(show _ ≤ 601024 by omega), (show _ ≤ 7293000 by omega)⟩ ?_
    refine q_iload hc 1 dL_law_634 rfl ?_
    refine q_icmpN_eq hc 641 dL_law_636 (by decide) (by omega) (by omega) (fun c112 => ?_) (fun c112 => ?_)
    · refine q_iload hc 1 dL_law_641 rfl ?_
      refine q_if_ne hc 658 dL_law_643 (by decide) (by omega) (fun c113 => ?_) (fun c113 => ?_)
      · refine q_goto hc 1036 dL_law_658 (by decide) ?_
        refine V.widen (k := 79 + 2 * (t + 1)) (n := 8194 + 12 * (t + 1)) (by omega) (by omega) ?_
        refine V.sub [2, 3, 4, 5, 6] rfl ?_
        exact ih nc rc cap us hi pn rl pi ro _ ⟨1, co, di, tr, rw, mt, md, mk, mq, le, fo, hq80, hq81, hq82, hq83, hq84, hq85, hq86, hq87, hq88, hq89, hq90, hq91, hq92, hq106, hq93, hq107, hq108, hq109, hq77, hq94, hq95, hq96, hq97, hq98, hq99, hq100, hq101, hq102, hq103, hq104, hq105, hrw⟩ (hG9.mono)
      · exact absurd c113 (by decide)
    · exact absurd rfl c112

set_option maxRecDepth 100000 in
set_option maxHeartbeats 16000000 in
theorem lw_has {p : Program} {l : Launch} {e : Env} {s : State} {m : MethodId} {below : List Frame} {meth : Method} {c : Code} {b L : Nat} {xs : Nat → Int32} {D : va_G} {K : Nat → ClassId} {ad : Nat → Nat} {w h n c0 : Nat} (hC : LC p l s m c b L xs D K w h n c0) {t : Nat} (ht : 3 + 5 * t + 5 ≤ L) {nc rc : Nat} {cap us hi pn : Nat → Nat} {rl : Nat → Int} {pi : Nat → Nat → Nat} {ro : Nat → Nat → Bool} {ws : va_W} (hF : FW K ad w h n c0 nc rc cap us hi pn rl pi ro ws) (hG : GI n nc rc cap hi pn pi (us, ro, rl) t) (ih : ∀ (nc rc : Nat) (cap us hi pn : Nat → Nat) (rl : Nat → Int) (pi : Nat → Nat → Nat) (ro : Nat → Nat → Bool) (u : va_W), FW K ad w h n c0 nc rc cap us hi pn rl pi ro u → GI n nc rc cap hi pn pi (us, ro, rl) (t + 1) → V p l e room_1 s m #[Value.ref b] below meth c 8 (79 + 2 * (t + 1)) (8194 + 12 * (t + 1)) (lw_Z below #[Value.ref b] s) (hpM D (va_A [] s.heap.size) s.heap) u [(0, .ref b), (1, .ref (ad 0)), (2, .ref (ad 66)), (3, .ref (ad 78)), (4, .int (iZ ((3 + 5 * t : Nat) : Int)))] 1036 []) : V p l e room_1 s m #[Value.ref b] below meth c 8 (79 + 2 * t) (8194 + 12 * t) (lw_Z below #[Value.ref b] s) (hpM D (va_A [] s.heap.size) s.heap) ws [(0, .ref b), (1, .ref (ad 0)), (2, .ref (ad 66)), (3, .ref (ad 78)), (4, .int (iZ ((3 + 5 * t : Nat) : Int)))] 661 [] := by
  obtain ⟨hc, hXE, hX, hbl, hl, hWH, hc0, hL⟩ := hC
  have hbA : ¬ va_A [] s.heap.size b := no_A hbl
  have hF9 := hF; have hG9 := hG
  obtain ⟨th, co, di, tr, rw, mt, md, mk, mq, le, fo, h0, h1, h2, h3, h4, h5, h6, h7, h8, h9, h10, h11, h12, hR, h29, hN, hP, hO, h66, m67, m68, m69, m70, m71, m72, m73, m74, m75, m76, m77, h78, hrw⟩ := hF
  obtain ⟨hnc, hcap, hhb, hpn0, hpin0, hpif0, hRI, hrc⟩ := hG
  have hn := hWH.le; have hw2 := hWH.1; have hxy := hWH.xy; have hNB := NB_W hWH
  have hw : 0 < w ∧ w ≤ 8 ∧ h ≤ 8 := ⟨by omega, by omega, by omega⟩
  have hI := hRI.1; have hUC : UC n nc us ro := hI.1; have hR0 : RO0 n nc ro rl := hI.2.1; have hRL : RLc n nc ro rl := hRI.2.1; have hrl : ∀ j, j < nc → -1 ≤ rl j ∧ rl j ≤ 128 := hI.2.2; have hus : ∀ k, k < 2 * n → us k ≤ 12 := hI.us hnc
  have hhi : ∀ k, k < 2 * n → hi k ≤ 5120 := fun k hk => by have h9 := hhb k hk; omega
  have hpn : ∀ j, j < nc → pn j ≤ 5 := fun j _ => hpn0 j
  have hpin : ∀ j k, j < nc → k < pn j → pi j k < n := fun j k _ hk => hpin0 j k hk
  have hpif : ∀ j k, j < nc → pi j k < 64 := fun j k _ => hpif0 j k
  obtain ⟨a1, ha1, hr1⟩ : ∃ a9 : Int, (xs (3 + 5 * t + 1)).toInt = a9 ∧ (-2147483648 ≤ a9 ∧ a9 < 2147483648) := ⟨_, rfl, iZ_rng _⟩
  obtain ⟨a2, ha2, hr2⟩ : ∃ a9 : Int, (xs (3 + 5 * t + 2)).toInt = a9 ∧ (-2147483648 ≤ a9 ∧ a9 < 2147483648) := ⟨_, rfl, iZ_rng _⟩
  obtain ⟨a3, ha3, hr3⟩ : ∃ a9 : Int, (xs (3 + 5 * t + 3)).toInt = a9 ∧ (-2147483648 ≤ a9 ∧ a9 < 2147483648) := ⟨_, rfl, iZ_rng _⟩
  obtain ⟨a4, ha4, hr4⟩ : ∃ a9 : Int, (xs (3 + 5 * t + 4)).toInt = a9 ∧ (-2147483648 ≤ a9 ∧ a9 < 2147483648) := ⟨_, rfl, iZ_rng _⟩
  obtain ⟨d4, hd4⟩ : ∃ d9 : Bool, d9 = decide (¬ a4 = 0) := ⟨_, rfl⟩
  refine q_aload_n hc 1 dL_law_661 rfl ?_
  refine q_aload_n hc 0 dL_law_662 rfl ?_
  refine q_iload hc 4 dL_law_663 rfl ?_
  refine q_iconstN hc 1 dL_law_665 rfl ?_
  refine q_iaddN hc dL_law_666 ?_
  refine q_sld (j := 3 + 5 * t + 1) hc hX hbl hbA rfl (by omega) (by omega) dL_law_667 ?_
  refine V.topi (show _ = a1 from ha1) ?_
  refine q_aload_n hc 0 dL_law_668 rfl ?_
  refine q_iload hc 4 dL_law_669 rfl ?_
  refine q_iconstN hc 2 dL_law_671 rfl ?_
  refine q_iaddN hc dL_law_672 ?_
  refine q_sld (j := 3 + 5 * t + 2) hc hX hbl hbA rfl (by omega) (by omega) dL_law_673 ?_
  refine V.topi (show _ = a2 from ha2) ?_
  refine q_aload_n hc 0 dL_law_674 rfl ?_
  refine q_iload hc 4 dL_law_675 rfl ?_
  refine q_iconstN hc 3 dL_law_677 rfl ?_
  refine q_iaddN hc dL_law_678 ?_
  refine q_sld (j := 3 + 5 * t + 3) hc hX hbl hbA rfl (by omega) (by omega) dL_law_679 ?_
  refine V.topi (show _ = a3 from ha3) ?_
  refine q_aload_n hc 0 dL_law_680 rfl ?_
  refine q_iload hc 4 dL_law_681 rfl ?_
  refine q_iconstN hc 4 dL_law_683 rfl ?_
  refine q_iaddN hc dL_law_684 ?_
  refine q_sld (j := 3 + 5 * t + 4) hc hX hbl hbA rfl (by omega) (by omega) dL_law_685 ?_
  refine V.topi (show _ = a4 from ha4) ?_
  refine V.join (lv' := [(0, .ref b), (1, .ref (ad 0)), (2, .ref (ad 66)), (3, .ref (ad 78)), (4, .int (iZ ((3 + 5 * t : Nat) : Int)))]) (pc' := 694) (st' := [.int (iZ (bZ d4)), .int (iZ a3), .int (iZ a2), .int (iZ a1), .ref (ad 0)]) ?_ (fun j694 => ?_)
  · refine q_aload_n hc 3 dL_law_694 rfl ?_
    refine q_callLi (As := [.ref (ad 0), .int (iZ a1), .int (iZ a2), .int (iZ a3), .int (iZ (bZ d4)), .ref (ad 78)]) (rest := []) hc hXE (c_L_has l hl D K ws ad nc rc a1 a2 a3 d4 w h n pn rl ro fo h0 h1 h29 hN hO h78 hnc hr1 hr2 hr3 hn hw hxy) (vx_cwSW 6 hc.1.2.2.2.2 gL_law_L_has rfl rfl rfl (by decide +kernel) ⟨Nat.le_of_ble_eq_true rfl, Nat.le_of_ble_eq_true rfl⟩) rfl rfl (by decide) dL_law_695 ⟨(show _ ≤ 601024 by omega), (show _ ≤ 7293000 by omega)⟩ (fun r u hp' => ?_)
    rcases hp' with ⟨hr9, hx1, hx2, hq3, fr4⟩ | ⟨hr9, x0, hw9⟩ | ⟨hr9, x0, x1, hw9⟩
    · subst hr9
      have hq5 := (fr4.at 0 (by omega)).trans h0
      have hq6 := (fr4.at 1 (by omega)).trans h1
      have hq7 := (fr4.at 2 (by omega)).trans h2
      have hq8 := (fr4.at 3 (by omega)).trans h3
      have hq9 := (fr4.at 4 (by omega)).trans h4
      have hq10 := (fr4.at 5 (by omega)).trans h5
      have hq11 := (fr4.at 6 (by omega)).trans h6
      have hq12 := (fr4.at 7 (by omega)).trans h7
      have hq13 := (fr4.at 8 (by omega)).trans h8
      have hq14 := (fr4.at 9 (by omega)).trans h9
      have hq15 := (fr4.at 10 (by omega)).trans h10
      have hq16 := (fr4.at 11 (by omega)).trans h11
      have hq17 := (fr4.at 12 (by omega)).trans h12
      have hq18 := (fr4.at 29 (by omega)).trans h29
      have hq19 := (fr4.at 66 (by omega)).trans h66
      have hq20 := (fr4.at 67 (by omega)).trans m67
      have hq21 := (fr4.at 68 (by omega)).trans m68
      have hq22 := (fr4.at 69 (by omega)).trans m69
      have hq23 := (fr4.at 70 (by omega)).trans m70
      have hq24 := (fr4.at 71 (by omega)).trans m71
      have hq25 := (fr4.at 72 (by omega)).trans m72
      have hq26 := (fr4.at 73 (by omega)).trans m73
      have hq27 := (fr4.at 74 (by omega)).trans m74
      have hq28 := (fr4.at 75 (by omega)).trans m75
      have hq29 := (fr4.at 76 (by omega)).trans m76
      have hq30 := (fr4.at 77 (by omega)).trans m77
      have hq31 : ∀ s, s < 16 → u[13 + s]? = some (ad (13 + s), iN K n (rw s)) := fun s hs => (fr4.at (13 + s) (by omega)).trans (hR s hs)
      have hq32 : ∀ s, s < 12 → u[30 + 3 * s]? = some (ad (30 + 3 * s), nO ad s (pn s) (rl s)) := fun s hs => (fr4.at (30 + 3 * s) (by omega)).trans (hN s hs)
      have hq33 : ∀ s, s < 12 → u[31 + 3 * s]? = some (ad (31 + 3 * s), iN K 5 (pi s)) := fun s hs => (fr4.at (31 + 3 * s) (by omega)).trans (hP s hs)
      have hq34 : ∀ s, s < 12 → u[32 + 3 * s]? = some (ad (32 + 3 * s), zA K (2 * n) (ro s)) := fun s hs => (fr4.at (32 + 3 * s) (by omega)).trans (hO s hs)
      refine q_istore hc [(5, .int (iZ ((0 : Nat) : Int))), (0, .ref b), (1, .ref (ad 0)), (2, .ref (ad 66)), (3, .ref (ad 78)), (4, .int (iZ ((3 + 5 * t : Nat) : Int)))] dL_law_698 (by decide) rfl ?_
      refine q_aload_n hc 3 dL_law_700 rfl ?_
      refine q_aload_n hc 1 dL_law_701 rfl ?_
      refine q_iload hc 5 dL_law_702 rfl ?_
      refine q_iconstN hc 1 dL_law_704 rfl ?_
      refine q_iaddN hc dL_law_705 ?_
      refine q_sld (j := 3 + 5 * t + 1) hc hX hbl hbA rfl (by omega) (by omega) dL_law_706 ?_
      refine V.topi (show _ = a1 from ha1) ?_
      refine q_aload_n hc 1 dL_law_707 rfl ?_
      refine q_iload hc 5 dL_law_708 rfl ?_
      refine q_iconstN hc 2 dL_law_710 rfl ?_
      refine q_iaddN hc dL_law_711 ?_
      refine q_sld (j := 3 + 5 * t + 2) hc hX hbl hbA rfl (by omega) (by omega) dL_law_712 ?_
      refine V.topi (show _ = a2 from ha2) ?_
      refine q_aload_n hc 1 dL_law_713 rfl ?_
      refine q_iload hc 5 dL_law_714 rfl ?_
      refine q_iconstN hc 3 dL_law_716 rfl ?_
      refine q_iaddN hc dL_law_717 ?_
      refine q_sld (j := 3 + 5 * t + 3) hc hX hbl hbA rfl (by omega) (by omega) dL_law_718 ?_
      refine V.topi (show _ = a3 from ha3) ?_
      refine q_aload_n hc 1 dL_law_719 rfl ?_
      refine q_iload hc 5 dL_law_720 rfl ?_
      refine q_iconstN hc 4 dL_law_722 rfl ?_
      refine q_iaddN hc dL_law_723 ?_
      refine q_sld (j := 3 + 5 * t + 4) hc hX hbl hbA rfl (by omega) (by omega) dL_law_724 ?_
      refine V.topi (show _ = a4 from ha4) ?_
      refine V.join (lv' := [(5, .int (iZ ((0 : Nat) : Int))), (0, .ref b), (1, .ref (ad 0)), (2, .ref (ad 66)), (3, .ref (ad 78)), (4, .int (iZ ((3 + 5 * t : Nat) : Int)))]) (pc' := 733) (st' := [.int (iZ (bZ d4)), .int (iZ a3), .int (iZ a2), .int (iZ a1), .ref (ad 66)]) ?_ (fun j733 => ?_)
      · refine q_callMi (As := [.int (iZ a1), .int (iZ a2), .int (iZ a3), .int (iZ (bZ d4))]) (rest := []) hc (c_X5_has l D K u ad w h n th nc rc a1 a2 a3 d4 ro hq19 hq25 hnc hr1 hr2 hr3 hn hw2 hxy hx1 hx2) (cwV 4 hc.1.2.2.2.2 gL_law_X5_has rfl rfl rfl (by decide +kernel) ⟨Nat.le_of_ble_eq_true rfl, Nat.le_of_ble_eq_true rfl⟩) 66 hq19 rfl rfl rfl (by decide) dL_law_733 ⟨(show _ ≤ 601024 by omega), (show _ ≤ 7293000 by omega)⟩ (fun r36 u35 hp' => ?_)
        obtain ⟨hr39, hq37, fr38⟩ := hp'
        have hq40 := (fr38.at 0 (by omega)).trans hq5
        have hq41 := (fr38.at 1 (by omega)).trans hq6
        have hq42 := (fr38.at 2 (by omega)).trans hq7
        have hq43 := (fr38.at 3 (by omega)).trans hq8
        have hq44 := (fr38.at 4 (by omega)).trans hq9
        have hq45 := (fr38.at 5 (by omega)).trans hq10
        have hq46 := (fr38.at 6 (by omega)).trans hq11
        have hq47 := (fr38.at 7 (by omega)).trans hq12
        have hq48 := (fr38.at 8 (by omega)).trans hq13
        have hq49 := (fr38.at 9 (by omega)).trans hq14
        have hq50 := (fr38.at 10 (by omega)).trans hq15
        have hq51 := (fr38.at 11 (by omega)).trans hq16
        have hq52 := (fr38.at 12 (by omega)).trans hq17
        have hq53 := (fr38.at 29 (by omega)).trans hq18
        have hq54 := (fr38.at 67 (by omega)).trans hq20
        have hq55 := (fr38.at 68 (by omega)).trans hq21
        have hq56 := (fr38.at 69 (by omega)).trans hq22
        have hq57 := (fr38.at 70 (by omega)).trans hq23
        have hq58 := (fr38.at 71 (by omega)).trans hq24
        have hq59 := (fr38.at 72 (by omega)).trans hq25
        have hq60 := (fr38.at 73 (by omega)).trans hq26
        have hq61 := (fr38.at 74 (by omega)).trans hq27
        have hq62 := (fr38.at 75 (by omega)).trans hq28
        have hq63 := (fr38.at 76 (by omega)).trans hq29
        have hq64 := (fr38.at 77 (by omega)).trans hq30
        have hq65 := (fr38.at 78 (by omega)).trans hq3
        have hq66 : ∀ s, s < 16 → u35[13 + s]? = some (ad (13 + s), iN K n (rw s)) := fun s hs => (fr38.at (13 + s) (by omega)).trans (hq31 s hs)
        have hq67 : ∀ s, s < 12 → u35[30 + 3 * s]? = some (ad (30 + 3 * s), nO ad s (pn s) (rl s)) := fun s hs => (fr38.at (30 + 3 * s) (by omega)).trans (hq32 s hs)
        have hq68 : ∀ s, s < 12 → u35[31 + 3 * s]? = some (ad (31 + 3 * s), iN K 5 (pi s)) := fun s hs => (fr38.at (31 + 3 * s) (by omega)).trans (hq33 s hs)
        have hq69 : ∀ s, s < 12 → u35[32 + 3 * s]? = some (ad (32 + 3 * s), zA K (2 * n) (ro s)) := fun s hs => (fr38.at (32 + 3 * s) (by omega)).trans (hq34 s hs)
        subst hr39
        refine q_istore hc [(6, .int (iZ (bZ (ro a1.toNat (bIx w a2 a3 d4))))), (5, .int (iZ ((0 : Nat) : Int))), (0, .ref b), (1, .ref (ad 0)), (2, .ref (ad 66)), (3, .ref (ad 78)), (4, .int (iZ ((3 + 5 * t : Nat) : Int)))] dL_law_736 (by decide) rfl ?_
        refine q_aload_n hc 4 dL_law_738 rfl ?_
        refine q_callPn (As := []) (rest := []) hc (c_X5_thrown l D K u35 ad w h 0 nc rc hq37 ) (cwV 0 hc.1.2.2.2.2 gL_law_X5_thrown rfl rfl rfl (by decide +kernel) ⟨Nat.le_of_ble_eq_true rfl, Nat.le_of_ble_eq_true rfl⟩) 66 hq37 rfl rfl rfl (by decide) dL_law_739 ⟨(show _ ≤ 601024 by omega), (show _ ≤ 7293000 by omega)⟩ ?_
        refine q_iload hc 1 dL_law_742 rfl ?_
        refine q_icmpN_eq hc 749 dL_law_744 (by decide) (by omega) (by omega) (fun c72 => ?_) (fun c72 => ?_)
        · refine q_iload hc 1 dL_law_749 rfl ?_
          refine q_if_ne hc 773 dL_law_751 (by decide) (by omega) (fun c73 => ?_) (fun c73 => ?_)
          · exact absurd rfl c73
          · refine q_aload_n hc 5 dL_law_754 rfl ?_
            refine q_iconstN hc 0 dL_law_755 rfl ?_
            refine q_lald (j := 0) hc 78 hq65 rfl (by omega) (by omega) dL_law_756 ?_
            refine V.topj (show _ = bZ (ro a1.toNat (bIx w a2 a3 d4)) from by rw [va_up_self]) ?_
            refine q_iload hc 0 dL_law_757 rfl ?_
            refine q_ifz_eq hc 766 dL_law_759 (by decide) (fun c74 => ?_) (fun c74 => ?_)
            · refine q_lconst (z := 0) hc dL_law_766 (by decide +kernel) ?_
              refine q_lcmpE hc dL_law_767 (show jZ (bZ (ro a1.toNat (bIx w a2 a3 d4))) = jZ (0) from by rw [c74]; rfl) ?_
              refine q_if_eq hc 773 dL_law_768 (by decide) (by omega) (fun c75 => ?_) (fun c75 => ?_)
              · refine q_goto hc 1036 dL_law_773 (by decide) ?_
                refine V.widen (k := 79 + 2 * (t + 1)) (n := 8194 + 12 * (t + 1)) (by omega) (by omega) ?_
                refine V.sub [2, 3, 4, 5, 6] rfl ?_
                exact ih nc rc cap us hi pn rl pi ro _ ⟨0, co, di, tr, rw, mt, md, mk, mq, le, va_up fo 0 (bZ (ro a1.toNat (bIx w a2 a3 d4))), hq40, hq41, hq42, hq43, hq44, hq45, hq46, hq47, hq48, hq49, hq50, hq51, hq52, hq66, hq53, hq67, hq68, hq69, hq37, hq54, hq55, hq56, hq57, hq58, hq59, hq60, hq61, hq62, hq63, hq64, hq65, hrw⟩ (hG9.mono)
              · exact absurd rfl c75
            · refine q_lconst (z := 1) hc dL_law_762 (by decide +kernel) ?_
              refine q_goto hc 767 dL_law_763 (by decide) ?_
              refine q_lcmpE hc dL_law_767 (show jZ (bZ (ro a1.toNat (bIx w a2 a3 d4))) = jZ (1) from by rw [c74]; rfl) ?_
              refine q_if_eq hc 773 dL_law_768 (by decide) (by omega) (fun c76 => ?_) (fun c76 => ?_)
              · refine q_goto hc 1036 dL_law_773 (by decide) ?_
                refine V.widen (k := 79 + 2 * (t + 1)) (n := 8194 + 12 * (t + 1)) (by omega) (by omega) ?_
                refine V.sub [2, 3, 4, 5, 6] rfl ?_
                exact ih nc rc cap us hi pn rl pi ro _ ⟨0, co, di, tr, rw, mt, md, mk, mq, le, va_up fo 0 (bZ (ro a1.toNat (bIx w a2 a3 d4))), hq40, hq41, hq42, hq43, hq44, hq45, hq46, hq47, hq48, hq49, hq50, hq51, hq52, hq66, hq53, hq67, hq68, hq69, hq37, hq54, hq55, hq56, hq57, hq58, hq59, hq60, hq61, hq62, hq63, hq64, hq65, hrw⟩ (hG9.mono)
              · exact absurd rfl c76
        · exact absurd rfl c72
      · refine q_if_eq hc 732 dL_law_725 (by decide) (by omega) (fun c77 => ?_) (fun c77 => ?_)
        · refine q_iconstN hc 0 dL_law_732 rfl ?_
          refine V.topv (show _ = Value.int (iZ (bZ d4)) from by rw [hd4, show decide (¬ a4 = 0) = false from decide_eq_false (by omega)]; rfl) ?_
          exact j733
        · refine q_iconstN hc 1 dL_law_728 rfl ?_
          refine q_goto hc 733 dL_law_729 (by decide) ?_
          refine V.topv (show _ = Value.int (iZ (bZ d4)) from by rw [hd4, show decide (¬ a4 = 0) = true from decide_eq_true (by omega)]; rfl) ?_
          exact j733
    · subst hw9; subst hr9
      refine q_istore hc [(5, .int (iZ ((1 : Nat) : Int))), (0, .ref b), (1, .ref (ad 0)), (2, .ref (ad 66)), (3, .ref (ad 78)), (4, .int (iZ ((3 + 5 * t : Nat) : Int)))] dL_law_698 (by decide) rfl ?_
      refine q_aload_n hc 3 dL_law_700 rfl ?_
      refine q_aload_n hc 1 dL_law_701 rfl ?_
      refine q_iload hc 5 dL_law_702 rfl ?_
      refine q_iconstN hc 1 dL_law_704 rfl ?_
      refine q_iaddN hc dL_law_705 ?_
      refine q_sld (j := 3 + 5 * t + 1) hc hX hbl hbA rfl (by omega) (by omega) dL_law_706 ?_
      refine V.topi (show _ = a1 from ha1) ?_
      refine q_aload_n hc 1 dL_law_707 rfl ?_
      refine q_iload hc 5 dL_law_708 rfl ?_
      refine q_iconstN hc 2 dL_law_710 rfl ?_
      refine q_iaddN hc dL_law_711 ?_
      refine q_sld (j := 3 + 5 * t + 2) hc hX hbl hbA rfl (by omega) (by omega) dL_law_712 ?_
      refine V.topi (show _ = a2 from ha2) ?_
      refine q_aload_n hc 1 dL_law_713 rfl ?_
      refine q_iload hc 5 dL_law_714 rfl ?_
      refine q_iconstN hc 3 dL_law_716 rfl ?_
      refine q_iaddN hc dL_law_717 ?_
      refine q_sld (j := 3 + 5 * t + 3) hc hX hbl hbA rfl (by omega) (by omega) dL_law_718 ?_
      refine V.topi (show _ = a3 from ha3) ?_
      refine q_aload_n hc 1 dL_law_719 rfl ?_
      refine q_iload hc 5 dL_law_720 rfl ?_
      refine q_iconstN hc 4 dL_law_722 rfl ?_
      refine q_iaddN hc dL_law_723 ?_
      refine q_sld (j := 3 + 5 * t + 4) hc hX hbl hbA rfl (by omega) (by omega) dL_law_724 ?_
      refine V.topi (show _ = a4 from ha4) ?_
      refine V.join (lv' := [(5, .int (iZ ((1 : Nat) : Int))), (0, .ref b), (1, .ref (ad 0)), (2, .ref (ad 66)), (3, .ref (ad 78)), (4, .int (iZ ((3 + 5 * t : Nat) : Int)))]) (pc' := 733) (st' := [.int (iZ (bZ d4)), .int (iZ a3), .int (iZ a2), .int (iZ a1), .ref (ad 66)]) ?_ (fun j733 => ?_)
      · refine q_callMi (As := [.int (iZ a1), .int (iZ a2), .int (iZ a3), .int (iZ (bZ d4))]) (rest := []) hc (c_X5_has_e1 l D K ws ad w h th nc rc a1 a2 a3 d4 h66 hnc hr1 hr2 hr3 hw2 (Or.inl x0)) (cwV 4 hc.1.2.2.2.2 gL_law_X5_has rfl rfl rfl (by decide +kernel) ⟨Nat.le_of_ble_eq_true rfl, Nat.le_of_ble_eq_true rfl⟩) 66 h66 rfl rfl rfl (by decide) dL_law_733 ⟨(show _ ≤ 601024 by omega), (show _ ≤ 7293000 by omega)⟩ (fun r79 u78 hp' => ?_)
        obtain ⟨hr82, hq80, fr81⟩ := hp'
        have hq83 := (fr81.at 0 (by omega)).trans h0
        have hq84 := (fr81.at 1 (by omega)).trans h1
        have hq85 := (fr81.at 2 (by omega)).trans h2
        have hq86 := (fr81.at 3 (by omega)).trans h3
        have hq87 := (fr81.at 4 (by omega)).trans h4
        have hq88 := (fr81.at 5 (by omega)).trans h5
        have hq89 := (fr81.at 6 (by omega)).trans h6
        have hq90 := (fr81.at 7 (by omega)).trans h7
        have hq91 := (fr81.at 8 (by omega)).trans h8
        have hq92 := (fr81.at 9 (by omega)).trans h9
        have hq93 := (fr81.at 10 (by omega)).trans h10
        have hq94 := (fr81.at 11 (by omega)).trans h11
        have hq95 := (fr81.at 12 (by omega)).trans h12
        have hq96 := (fr81.at 29 (by omega)).trans h29
        have hq97 := (fr81.at 67 (by omega)).trans m67
        have hq98 := (fr81.at 68 (by omega)).trans m68
        have hq99 := (fr81.at 69 (by omega)).trans m69
        have hq100 := (fr81.at 70 (by omega)).trans m70
        have hq101 := (fr81.at 71 (by omega)).trans m71
        have hq102 := (fr81.at 72 (by omega)).trans m72
        have hq103 := (fr81.at 73 (by omega)).trans m73
        have hq104 := (fr81.at 74 (by omega)).trans m74
        have hq105 := (fr81.at 75 (by omega)).trans m75
        have hq106 := (fr81.at 76 (by omega)).trans m76
        have hq107 := (fr81.at 77 (by omega)).trans m77
        have hq108 := (fr81.at 78 (by omega)).trans h78
        have hq109 : ∀ s, s < 16 → u78[13 + s]? = some (ad (13 + s), iN K n (rw s)) := fun s hs => (fr81.at (13 + s) (by omega)).trans (hR s hs)
        have hq110 : ∀ s, s < 12 → u78[30 + 3 * s]? = some (ad (30 + 3 * s), nO ad s (pn s) (rl s)) := fun s hs => (fr81.at (30 + 3 * s) (by omega)).trans (hN s hs)
        have hq111 : ∀ s, s < 12 → u78[31 + 3 * s]? = some (ad (31 + 3 * s), iN K 5 (pi s)) := fun s hs => (fr81.at (31 + 3 * s) (by omega)).trans (hP s hs)
        have hq112 : ∀ s, s < 12 → u78[32 + 3 * s]? = some (ad (32 + 3 * s), zA K (2 * n) (ro s)) := fun s hs => (fr81.at (32 + 3 * s) (by omega)).trans (hO s hs)
        subst hr82
        refine q_istore hc [(6, .int (iZ (bZ false))), (5, .int (iZ ((1 : Nat) : Int))), (0, .ref b), (1, .ref (ad 0)), (2, .ref (ad 66)), (3, .ref (ad 78)), (4, .int (iZ ((3 + 5 * t : Nat) : Int)))] dL_law_736 (by decide) rfl ?_
        refine q_aload_n hc 4 dL_law_738 rfl ?_
        refine q_callPn (As := []) (rest := []) hc (c_X5_thrown l D K u78 ad w h 1 nc rc hq80 ) (cwV 0 hc.1.2.2.2.2 gL_law_X5_thrown rfl rfl rfl (by decide +kernel) ⟨Nat.le_of_ble_eq_true rfl, Nat.le_of_ble_eq_true rfl⟩) 66 hq80 rfl rfl rfl (by decide) dL_law_739 ⟨(show _ ≤ 601024 by omega), (show _ ≤ 7293000 by omega)⟩ ?_
        refine q_iload hc 1 dL_law_742 rfl ?_
        refine q_icmpN_eq hc 749 dL_law_744 (by decide) (by omega) (by omega) (fun c115 => ?_) (fun c115 => ?_)
        · refine q_iload hc 1 dL_law_749 rfl ?_
          refine q_if_ne hc 773 dL_law_751 (by decide) (by omega) (fun c116 => ?_) (fun c116 => ?_)
          · refine q_goto hc 1036 dL_law_773 (by decide) ?_
            refine V.widen (k := 79 + 2 * (t + 1)) (n := 8194 + 12 * (t + 1)) (by omega) (by omega) ?_
            refine V.sub [2, 3, 4, 5, 6] rfl ?_
            exact ih nc rc cap us hi pn rl pi ro _ ⟨1, co, di, tr, rw, mt, md, mk, mq, le, fo, hq83, hq84, hq85, hq86, hq87, hq88, hq89, hq90, hq91, hq92, hq93, hq94, hq95, hq109, hq96, hq110, hq111, hq112, hq80, hq97, hq98, hq99, hq100, hq101, hq102, hq103, hq104, hq105, hq106, hq107, hq108, hrw⟩ (hG9.mono)
          · exact absurd c116 (by decide)
        · exact absurd rfl c115
      · refine q_if_eq hc 732 dL_law_725 (by decide) (by omega) (fun c117 => ?_) (fun c117 => ?_)
        · refine q_iconstN hc 0 dL_law_732 rfl ?_
          refine V.topv (show _ = Value.int (iZ (bZ d4)) from by rw [hd4, show decide (¬ a4 = 0) = false from decide_eq_false (by omega)]; rfl) ?_
          exact j733
        · refine q_iconstN hc 1 dL_law_728 rfl ?_
          refine q_goto hc 733 dL_law_729 (by decide) ?_
          refine V.topv (show _ = Value.int (iZ (bZ d4)) from by rw [hd4, show decide (¬ a4 = 0) = true from decide_eq_true (by omega)]; rfl) ?_
          exact j733
    · subst hw9; subst hr9
      refine q_istore hc [(5, .int (iZ ((1 : Nat) : Int))), (0, .ref b), (1, .ref (ad 0)), (2, .ref (ad 66)), (3, .ref (ad 78)), (4, .int (iZ ((3 + 5 * t : Nat) : Int)))] dL_law_698 (by decide) rfl ?_
      refine q_aload_n hc 3 dL_law_700 rfl ?_
      refine q_aload_n hc 1 dL_law_701 rfl ?_
      refine q_iload hc 5 dL_law_702 rfl ?_
      refine q_iconstN hc 1 dL_law_704 rfl ?_
      refine q_iaddN hc dL_law_705 ?_
      refine q_sld (j := 3 + 5 * t + 1) hc hX hbl hbA rfl (by omega) (by omega) dL_law_706 ?_
      refine V.topi (show _ = a1 from ha1) ?_
      refine q_aload_n hc 1 dL_law_707 rfl ?_
      refine q_iload hc 5 dL_law_708 rfl ?_
      refine q_iconstN hc 2 dL_law_710 rfl ?_
      refine q_iaddN hc dL_law_711 ?_
      refine q_sld (j := 3 + 5 * t + 2) hc hX hbl hbA rfl (by omega) (by omega) dL_law_712 ?_
      refine V.topi (show _ = a2 from ha2) ?_
      refine q_aload_n hc 1 dL_law_713 rfl ?_
      refine q_iload hc 5 dL_law_714 rfl ?_
      refine q_iconstN hc 3 dL_law_716 rfl ?_
      refine q_iaddN hc dL_law_717 ?_
      refine q_sld (j := 3 + 5 * t + 3) hc hX hbl hbA rfl (by omega) (by omega) dL_law_718 ?_
      refine V.topi (show _ = a3 from ha3) ?_
      refine q_aload_n hc 1 dL_law_719 rfl ?_
      refine q_iload hc 5 dL_law_720 rfl ?_
      refine q_iconstN hc 4 dL_law_722 rfl ?_
      refine q_iaddN hc dL_law_723 ?_
      refine q_sld (j := 3 + 5 * t + 4) hc hX hbl hbA rfl (by omega) (by omega) dL_law_724 ?_
      refine V.topi (show _ = a4 from ha4) ?_
      refine V.join (lv' := [(5, .int (iZ ((1 : Nat) : Int))), (0, .ref b), (1, .ref (ad 0)), (2, .ref (ad 66)), (3, .ref (ad 78)), (4, .int (iZ ((3 + 5 * t : Nat) : Int)))]) (pc' := 733) (st' := [.int (iZ (bZ d4)), .int (iZ a3), .int (iZ a2), .int (iZ a1), .ref (ad 66)]) ?_ (fun j733 => ?_)
      · refine q_callMi (As := [.int (iZ a1), .int (iZ a2), .int (iZ a3), .int (iZ (bZ d4))]) (rest := []) hc (c_X5_has_e1 l D K ws ad w h th nc rc a1 a2 a3 d4 h66 hnc hr1 hr2 hr3 hw2 (Or.inr x1)) (cwV 4 hc.1.2.2.2.2 gL_law_X5_has rfl rfl rfl (by decide +kernel) ⟨Nat.le_of_ble_eq_true rfl, Nat.le_of_ble_eq_true rfl⟩) 66 h66 rfl rfl rfl (by decide) dL_law_733 ⟨(show _ ≤ 601024 by omega), (show _ ≤ 7293000 by omega)⟩ (fun r119 u118 hp' => ?_)
        obtain ⟨hr122, hq120, fr121⟩ := hp'
        have hq123 := (fr121.at 0 (by omega)).trans h0
        have hq124 := (fr121.at 1 (by omega)).trans h1
        have hq125 := (fr121.at 2 (by omega)).trans h2
        have hq126 := (fr121.at 3 (by omega)).trans h3
        have hq127 := (fr121.at 4 (by omega)).trans h4
        have hq128 := (fr121.at 5 (by omega)).trans h5
        have hq129 := (fr121.at 6 (by omega)).trans h6
        have hq130 := (fr121.at 7 (by omega)).trans h7
        have hq131 := (fr121.at 8 (by omega)).trans h8
        have hq132 := (fr121.at 9 (by omega)).trans h9
        have hq133 := (fr121.at 10 (by omega)).trans h10
        have hq134 := (fr121.at 11 (by omega)).trans h11
        have hq135 := (fr121.at 12 (by omega)).trans h12
        have hq136 := (fr121.at 29 (by omega)).trans h29
        have hq137 := (fr121.at 67 (by omega)).trans m67
        have hq138 := (fr121.at 68 (by omega)).trans m68
        have hq139 := (fr121.at 69 (by omega)).trans m69
        have hq140 := (fr121.at 70 (by omega)).trans m70
        have hq141 := (fr121.at 71 (by omega)).trans m71
        have hq142 := (fr121.at 72 (by omega)).trans m72
        have hq143 := (fr121.at 73 (by omega)).trans m73
        have hq144 := (fr121.at 74 (by omega)).trans m74
        have hq145 := (fr121.at 75 (by omega)).trans m75
        have hq146 := (fr121.at 76 (by omega)).trans m76
        have hq147 := (fr121.at 77 (by omega)).trans m77
        have hq148 := (fr121.at 78 (by omega)).trans h78
        have hq149 : ∀ s, s < 16 → u118[13 + s]? = some (ad (13 + s), iN K n (rw s)) := fun s hs => (fr121.at (13 + s) (by omega)).trans (hR s hs)
        have hq150 : ∀ s, s < 12 → u118[30 + 3 * s]? = some (ad (30 + 3 * s), nO ad s (pn s) (rl s)) := fun s hs => (fr121.at (30 + 3 * s) (by omega)).trans (hN s hs)
        have hq151 : ∀ s, s < 12 → u118[31 + 3 * s]? = some (ad (31 + 3 * s), iN K 5 (pi s)) := fun s hs => (fr121.at (31 + 3 * s) (by omega)).trans (hP s hs)
        have hq152 : ∀ s, s < 12 → u118[32 + 3 * s]? = some (ad (32 + 3 * s), zA K (2 * n) (ro s)) := fun s hs => (fr121.at (32 + 3 * s) (by omega)).trans (hO s hs)
        subst hr122
        refine q_istore hc [(6, .int (iZ (bZ false))), (5, .int (iZ ((1 : Nat) : Int))), (0, .ref b), (1, .ref (ad 0)), (2, .ref (ad 66)), (3, .ref (ad 78)), (4, .int (iZ ((3 + 5 * t : Nat) : Int)))] dL_law_736 (by decide) rfl ?_
        refine q_aload_n hc 4 dL_law_738 rfl ?_
        refine q_callPn (As := []) (rest := []) hc (c_X5_thrown l D K u118 ad w h 1 nc rc hq120 ) (cwV 0 hc.1.2.2.2.2 gL_law_X5_thrown rfl rfl rfl (by decide +kernel) ⟨Nat.le_of_ble_eq_true rfl, Nat.le_of_ble_eq_true rfl⟩) 66 hq120 rfl rfl rfl (by decide) dL_law_739 ⟨(show _ ≤ 601024 by omega), (show _ ≤ 7293000 by omega)⟩ ?_
        refine q_iload hc 1 dL_law_742 rfl ?_
        refine q_icmpN_eq hc 749 dL_law_744 (by decide) (by omega) (by omega) (fun c155 => ?_) (fun c155 => ?_)
        · refine q_iload hc 1 dL_law_749 rfl ?_
          refine q_if_ne hc 773 dL_law_751 (by decide) (by omega) (fun c156 => ?_) (fun c156 => ?_)
          · refine q_goto hc 1036 dL_law_773 (by decide) ?_
            refine V.widen (k := 79 + 2 * (t + 1)) (n := 8194 + 12 * (t + 1)) (by omega) (by omega) ?_
            refine V.sub [2, 3, 4, 5, 6] rfl ?_
            exact ih nc rc cap us hi pn rl pi ro _ ⟨1, co, di, tr, rw, mt, md, mk, mq, le, fo, hq123, hq124, hq125, hq126, hq127, hq128, hq129, hq130, hq131, hq132, hq133, hq134, hq135, hq149, hq136, hq150, hq151, hq152, hq120, hq137, hq138, hq139, hq140, hq141, hq142, hq143, hq144, hq145, hq146, hq147, hq148, hrw⟩ (hG9.mono)
          · exact absurd c156 (by decide)
        · exact absurd rfl c155
      · refine q_if_eq hc 732 dL_law_725 (by decide) (by omega) (fun c157 => ?_) (fun c157 => ?_)
        · refine q_iconstN hc 0 dL_law_732 rfl ?_
          refine V.topv (show _ = Value.int (iZ (bZ d4)) from by rw [hd4, show decide (¬ a4 = 0) = false from decide_eq_false (by omega)]; rfl) ?_
          exact j733
        · refine q_iconstN hc 1 dL_law_728 rfl ?_
          refine q_goto hc 733 dL_law_729 (by decide) ?_
          refine V.topv (show _ = Value.int (iZ (bZ d4)) from by rw [hd4, show decide (¬ a4 = 0) = true from decide_eq_true (by omega)]; rfl) ?_
          exact j733
  · refine q_if_eq hc 693 dL_law_686 (by decide) (by omega) (fun c158 => ?_) (fun c158 => ?_)
    · refine q_iconstN hc 0 dL_law_693 rfl ?_
      refine V.topv (show _ = Value.int (iZ (bZ d4)) from by rw [hd4, show decide (¬ a4 = 0) = false from decide_eq_false (by omega)]; rfl) ?_
      exact j694
    · refine q_iconstN hc 1 dL_law_689 rfl ?_
      refine q_goto hc 694 dL_law_690 (by decide) ?_
      refine V.topv (show _ = Value.int (iZ (bZ d4)) from by rw [hd4, show decide (¬ a4 = 0) = true from decide_eq_true (by omega)]; rfl) ?_
      exact j694
