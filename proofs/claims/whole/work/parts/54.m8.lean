theorem mA_h1 {n : Nat} {us cap hv : Nat → Nat} {b : Nat} : mA n 0 hv b + (if 0 < mA n 0 (fun k => us k - cap k) b then 1 else 0) = mA n 0 (fun k => hv k + (if 0 < us k - cap k then 1 else 0)) b := by
  unfold mA
  by_cases h : b % 64 < n
  · rw [if_pos h, if_pos h, if_pos h]
  · rw [if_neg h, if_neg h, if_neg h]; rfl
theorem rdS_eq {nb bt : Nat → Option Nat} {n nc : Nat} {cap pn : Nat → Nat} {pi : Nat → Nat → Nat} {S : RS} {hv U2 : Nat → Nat} {O2 : Nat → Nat → Bool} {L2 : Nat → Int} (h : (U2, O2, L2) = plS nb bt n cap hv pn pi S nc) : rdS nb bt n nc cap pn pi (S, hv) = ((U2, O2, L2), fun k => hv k + (if 0 < U2 k - cap k then 1 else 0)) := by
  unfold rdS
  dsimp only
  rw [← h]

set_option maxRecDepth 100000 in
set_option maxHeartbeats 4000000 in
theorem c_X5_lead (l : Launch) (D : va_G) (K : Nat → ClassId) (ws : va_W) (ad : Nat → Nat) (num : Int) (w h n th nc rc : Nat) (c0 : Nat) (cap us : Nat → Nat) (hi : Nat → Nat) (pn : Nat → Nat) (rl : Nat → Int) (pi : Nat → Nat → Nat) (ro : Nat → Nat → Bool) (tr rs : Nat → Bool) (di cm : Nat → Nat) (h66 : ws[66]? = some (ad 66, mO ad w h th nc rc)) (m67 : ws[67]? = some (ad 67, iN K 128 (mA n c0 cap))) (m68 : ws[68]? = some (ad 68, iN K 128 (mA n 0 hi))) (m69 : ws[69]? = some (ad 69, iN K 12 pn)) (m70 : ws[70]? = some (ad 70, iN K 60 (mP pi))) (m71 : ws[71]? = some (ad 71, zA K 12 (mHr rl))) (m72 : ws[72]? = some (ad 72, zA K 1536 (mRo n ro))) (m73 : ws[73]? = some (ad 73, zA K 64 tr)) (m74 : ws[74]? = some (ad 74, jN K 64 di)) (m75 : ws[75]? = some (ad 75, jN K 128 cm)) (m76 : ws[76]? = some (ad 76, zA K 128 rs)) (hW : WH w h n) (hnc : nc ≤ 12) (hnum : -2147483648 ≤ num ∧ num < 2147483648) (hUC : UC n nc us ro) (hc0 : c0 ≤ 20) (hcap : ∀ k, k < 2 * n → cap k ≤ 20) (hus : ∀ k, k < 2 * n → us k ≤ 12) (hhi : ∀ k, k < 2 * n → hi k ≤ 5120) (hpn : ∀ j, j < nc → pn j ≤ 5) (hpin : ∀ j k, j < nc → k < pn j → pi j k < n) (hok : (0 ≤ num ∧ num < (nc : Int))) (hp2 : 2 ≤ pn num.toNat) : MMl l yX5_lead wsX5_lead ({ frames := 5, cells := 0, slots := 0, locals := 128 }) D K ws [.ref (ad 66), .int (iZ num)] (fun r u => ∃ (tv : Nat → Bool) (dv : Nat → Nat) (cv : Nat → Nat) (rv : Nat → Bool), (r = (jZ ((sR n (coF cap (sbU us (ro num.toNat)) hi) (rtN (nbW w h) (btW w h) n cap hi (pn num.toNat) (pi num.toNat) us (ro num.toNat)) : Nat) : Int))) ∧ (u[66]? = some (ad 66, mO ad w h 0 nc rc)) ∧ (u[72]? = some (ad 72, zA K 1536 (mRo n (ldS (nbW w h) (btW w h) n cap hi pn pi num.toNat (us, ro, rl)).2.1))) ∧ (u[71]? = some (ad 71, zA K 12 (mHr (ldS (nbW w h) (btW w h) n cap hi pn pi num.toNat (us, ro, rl)).2.2))) ∧ (u[73]? = some (ad 73, zA K 64 tv)) ∧ (u[74]? = some (ad 74, jN K 64 dv)) ∧ (u[75]? = some (ad 75, jN K 128 cv)) ∧ (u[76]? = some (ad 76, zA K 128 rv)) ∧ (Fr (fun j => j = 66 ∨ j = 72 ∨ j = 71 ∨ j = 73 ∨ j = 74 ∨ j = 75 ∨ j = 76) ws u)) := by
  refine q_entMl RX5 [(0, .ref (ad 66)), (1, .int (iZ num))] (by decide) rfl rfl (Nat.le_of_ble_eq_true rfl) rfl ?_
  intro p e s m args below meth c hc hr hlk
  have i5 : ∀ w ∈ u_ws RX5 TX5 16, w ∈ wsX5_lead := by decide +kernel
  have f52 := hc.1.2.2.2.2 (.fieldLink RX5 52 "GlobalRoutesModel" "thrown" "I") (by decide +kernel)
  have f16 := hc.1.2.2.2.2 (.fieldLink RX5 16 "GlobalRoutesModel" "pins" "[I") (by decide +kernel)
  have fr0 : Fr (fun j => j = 66 ∨ j = 72 ∨ j = 71 ∨ j = 73 ∨ j = 74 ∨ j = 75 ∨ j = 76) ws ws := Fr.rfl
  refine q_aload_n hc 0 dX5_lead_0 rfl ?_
  refine q_iconstN hc 0 dX5_lead_1 rfl ?_
  refine q_put (ty := .int) hc 66 0 i5 tyX5 tyX5_ok nmX5 h66 rfl (by decide) f52 rfl rfl (by decide +kernel) rfl rfl (Nat.le_of_ble_eq_true rfl) rfl dX5_lead_2 (fun u1 hn' hf' => ?_)
  have hq2 : u1[66]? = some (ad 66, mO ad w h 0 nc rc) := hn'
  have hq3 := (hf' 67 (by omega)).trans m67
  have hq4 := (hf' 68 (by omega)).trans m68
  have hq5 := (hf' 69 (by omega)).trans m69
  have hq6 := (hf' 70 (by omega)).trans m70
  have hq7 := (hf' 71 (by omega)).trans m71
  have hq8 := (hf' 72 (by omega)).trans m72
  have hq9 := (hf' 73 (by omega)).trans m73
  have hq10 := (hf' 74 (by omega)).trans m74
  have hq11 := (hf' 75 (by omega)).trans m75
  have hq12 := (hf' 76 (by omega)).trans m76
  have fr13 := Fr.one hf'
  refine q_aload_n hc 0 dX5_lead_5 rfl ?_
  refine q_aload_n hc 0 dX5_lead_6 rfl ?_
  refine q_iload_n hc 1 dX5_lead_7 rfl ?_
  refine q_callPz (As := [.int (iZ num)]) (rest := [.ref (ad 66)]) hc (c_X5_isNet l D K u1 ad w h 0 nc rc num hq2 hnc hnum) (cwV 1 hc.1.2.2.2.2 gX5_lead_X5_isNet rfl rfl rfl (by decide +kernel) ⟨Nat.le_of_ble_eq_true rfl, Nat.le_of_ble_eq_true rfl⟩) 66 hq2 rfl rfl rfl (by simp [Value.category]) dX5_lead_8 ⟨Nat.zero_le _, Nat.zero_le _⟩ ?_
  refine V.topv (show _ = Value.int (iZ (bZ true)) from by rw [decide_eq_true hok]) ?_
  refine q_ifz_ne hc 18 dX5_lead_11 (by decide) (fun c16 => ?_) (fun c16 => ?_)
  · refine q_iconstN hc 0 dX5_lead_18 rfl ?_
    refine q_iconstN hc 1 dX5_lead_19 rfl ?_
    refine q_callMi (As := [.int (iZ (bZ false)), .int (iZ ((1 : Nat) : Int))]) (rest := []) hc (c_X5_fails l D K u1 ad w h nc rc false 1 hq2 (by omega)) (cwV 2 hc.1.2.2.2.2 gX5_lead_X5_fails rfl rfl rfl (by decide +kernel) ⟨Nat.le_of_ble_eq_true rfl, Nat.le_of_ble_eq_true rfl⟩) 66 hq2 rfl rfl rfl (by decide) dX5_lead_20 ⟨Nat.zero_le _, Nat.zero_le _⟩ (fun r18 u17 hp' => ?_)
    obtain ⟨hr21, hq19, fr20⟩ := hp'
    have hq22 := (fr20.at 67 (by omega)).trans hq3
    have hq23 := (fr20.at 68 (by omega)).trans hq4
    have hq24 := (fr20.at 69 (by omega)).trans hq5
    have hq25 := (fr20.at 70 (by omega)).trans hq6
    have hq26 := (fr20.at 71 (by omega)).trans hq7
    have hq27 := (fr20.at 72 (by omega)).trans hq8
    have hq28 := (fr20.at 73 (by omega)).trans hq9
    have hq29 := (fr20.at 74 (by omega)).trans hq10
    have hq30 := (fr20.at 75 (by omega)).trans hq11
    have hq31 := (fr20.at 76 (by omega)).trans hq12
    subst hr21
    have hq32 : u17[66]? = some (ad 66, mO ad w h 0 nc rc) := hq19
    refine q_ifz_ne hc 49 dX5_lead_23 (by decide) (fun c33 => ?_) (fun c33 => ?_)
    · cases c33
    · refine q_aload_n hc 0 dX5_lead_26 rfl ?_
      refine q_aload_n hc 0 dX5_lead_27 rfl ?_
      refine q_get hc 66 6 i5 hq32 rfl (by decide) f16 rfl rfl dX5_lead_28 ?_
      have hpn9 := hpn num.toNat (by omega)
      refine q_iload_n hc 1 dX5_lead_31 rfl ?_
      refine V.topi (show _ = ((num.toNat : Nat) : Int) from by omega) ?_
      refine q_ialdN (j := num.toNat) hc 69 hq24 rfl (by omega) (by omega) dX5_lead_32 ?_
      refine q_iconstN hc 2 dX5_lead_33 rfl ?_
      refine q_icmpN_ge hc 41 dX5_lead_34 (by decide) (by omega) (by omega) (fun c34 => ?_) (fun c34 => ?_)
      · refine q_iconstN hc 0 dX5_lead_41 rfl ?_
        refine q_iconstN hc 2 dX5_lead_42 rfl ?_
        refine q_callMi (As := [.int (iZ (bZ false)), .int (iZ ((2 : Nat) : Int))]) (rest := []) hc (c_X5_fails l D K u17 ad w h nc rc false 2 hq32 (by omega)) (cwV 2 hc.1.2.2.2.2 gX5_lead_X5_fails rfl rfl rfl (by decide +kernel) ⟨Nat.le_of_ble_eq_true rfl, Nat.le_of_ble_eq_true rfl⟩) 66 hq32 rfl rfl rfl (by decide) dX5_lead_43 ⟨Nat.zero_le _, Nat.zero_le _⟩ (fun r36 u35 hp' => ?_)
        obtain ⟨hr39, hq37, fr38⟩ := hp'
        have hq40 := (fr38.at 67 (by omega)).trans hq22
        have hq41 := (fr38.at 68 (by omega)).trans hq23
        have hq42 := (fr38.at 69 (by omega)).trans hq24
        have hq43 := (fr38.at 70 (by omega)).trans hq25
        have hq44 := (fr38.at 71 (by omega)).trans hq26
        have hq45 := (fr38.at 72 (by omega)).trans hq27
        have hq46 := (fr38.at 73 (by omega)).trans hq28
        have hq47 := (fr38.at 74 (by omega)).trans hq29
        have hq48 := (fr38.at 75 (by omega)).trans hq30
        have hq49 := (fr38.at 76 (by omega)).trans hq31
        subst hr39
        have hq50 : u35[66]? = some (ad 66, mO ad w h 0 nc rc) := hq37
        refine q_ifz_eq hc 51 dX5_lead_46 (by decide) (fun c51 => ?_) (fun c51 => ?_)
        · refine q_aload_n hc 0 dX5_lead_51 rfl ?_
          refine q_iload_n hc 1 dX5_lead_52 rfl ?_
          refine V.topi (show _ = ((num.toNat : Nat) : Int) from by omega) ?_
          refine q_callMl (As := [.int (iZ ((num.toNat : Nat) : Int))]) (rest := []) hc (c_X5_leadNet l D K u35 ad w h n 0 nc rc num.toNat c0 cap _ hi pn rl pi ro tr rs di cm hq50 hq40 hq41 hq42 hq43 hq44 hq45 hq46 hq47 hq48 hq49 hW hnc (by omega) hUC hc0 hcap hus hhi (hpn num.toNat (by omega)) hp2 (fun k hk => hpin num.toNat k (by omega) hk)) (cwV 1 hc.1.2.2.2.2 gX5_lead_X5_leadNet rfl rfl rfl (by decide +kernel) ⟨Nat.le_of_ble_eq_true rfl, Nat.le_of_ble_eq_true rfl⟩) 66 hq50 rfl rfl rfl (by decide) dX5_lead_53 ⟨Nat.zero_le _, Nat.zero_le _⟩ (fun r53 u52 hp' => ?_)
          obtain ⟨x54, x55, x56, x57, hr58, hq59, hq60, hq61, hq62, hq63, hq64, fr65⟩ := hp'
          have hq66 := (fr65.at 66 (by omega)).trans hq50
          have hq67 := (fr65.at 67 (by omega)).trans hq40
          have hq68 := (fr65.at 68 (by omega)).trans hq41
          have hq69 := (fr65.at 69 (by omega)).trans hq42
          have hq70 := (fr65.at 70 (by omega)).trans hq43
          subst hr58
          exact q_lretM (z := ((sR n (coF cap (sbU us (ro num.toNat)) hi) (rtN (nbW w h) (btW w h) n cap hi (pn num.toNat) (pi num.toNat) us (ro num.toNat)) : Nat) : Int)) hc (⟨_, _, _, _, rfl, hq66, hq59, hq60, hq61, hq62, hq63, hq64, ((((fr0.trans fr13 (fun _ _ => by omega)).trans fr20 (fun _ _ => by omega)).trans fr38 (fun _ _ => by omega)).trans fr65 (fun _ _ => by omega))⟩) hr hlk dX5_lead_56
        · cases c51
      · exact absurd c34 (by omega)
  · cases c16

set_option maxRecDepth 100000 in
set_option maxHeartbeats 4000000 in
theorem c_X5_run (l : Launch) (D : va_G) (K : Nat → ClassId) (ws : va_W) (ad : Nat → Nat) (rounds : Int) (hb : Nat) (w h n th nc rc : Nat) (c0 : Nat) (cap us : Nat → Nat) (hi : Nat → Nat) (pn : Nat → Nat) (rl : Nat → Int) (pi : Nat → Nat → Nat) (ro : Nat → Nat → Bool) (tr rs : Nat → Bool) (di cm : Nat → Nat) (h66 : ws[66]? = some (ad 66, mO ad w h th nc rc)) (m67 : ws[67]? = some (ad 67, iN K 128 (mA n c0 cap))) (m68 : ws[68]? = some (ad 68, iN K 128 (mA n 0 hi))) (m69 : ws[69]? = some (ad 69, iN K 12 pn)) (m70 : ws[70]? = some (ad 70, iN K 60 (mP pi))) (m71 : ws[71]? = some (ad 71, zA K 12 (mHr rl))) (m72 : ws[72]? = some (ad 72, zA K 1536 (mRo n ro))) (m73 : ws[73]? = some (ad 73, zA K 64 tr)) (m74 : ws[74]? = some (ad 74, jN K 64 di)) (m75 : ws[75]? = some (ad 75, jN K 128 cm)) (m76 : ws[76]? = some (ad 76, zA K 128 rs)) (hW : WH w h n) (hnc : nc ≤ 12) (hrounds : -2147483648 ≤ rounds ∧ rounds < 2147483648) (hc0 : c0 ≤ 20) (hcap : ∀ k, k < 2 * n → cap k ≤ 20) (hpn : ∀ j, j < nc → pn j ≤ 5) (hpin : ∀ j k, j < nc → k < pn j → pi j k < n) (hhb : ∀ k, k < 2 * n → hi k ≤ hb) (hb1 : hb + 10 ≤ 5120) (hrc : rc + 10 < 2147483648) (hI : Inv n nc (us, ro, rl)) (hok : 0 ≤ rounds ∧ rounds ≤ 10) : MMi l yX5_run wsX5_run ({ frames := 5, cells := 0, slots := 0, locals := 128 }) D K ws [.ref (ad 66), .int (iZ rounds)] (fun r u => ∃ (tv : Nat → Bool) (dv : Nat → Nat) (cv : Nat → Nat) (rv : Nat → Bool), (r = (iZ (((rnN (nbW w h) (btW w h) n nc cap pn pi rounds.toNat ((us, ro, rl), hi)).1 : Nat) : Int))) ∧ (u[66]? = some (ad 66, mO ad w h 0 nc (rc + (rnN (nbW w h) (btW w h) n nc cap pn pi rounds.toNat ((us, ro, rl), hi)).1))) ∧ (u[68]? = some (ad 68, iN K 128 (mA n 0 (rnN (nbW w h) (btW w h) n nc cap pn pi rounds.toNat ((us, ro, rl), hi)).2.2))) ∧ (u[72]? = some (ad 72, zA K 1536 (mRo n (rnN (nbW w h) (btW w h) n nc cap pn pi rounds.toNat ((us, ro, rl), hi)).2.1.2.1))) ∧ (u[71]? = some (ad 71, zA K 12 (mHr (rnN (nbW w h) (btW w h) n nc cap pn pi rounds.toNat ((us, ro, rl), hi)).2.1.2.2))) ∧ (u[73]? = some (ad 73, zA K 64 tv)) ∧ (u[74]? = some (ad 74, jN K 64 dv)) ∧ (u[75]? = some (ad 75, jN K 128 cv)) ∧ (u[76]? = some (ad 76, zA K 128 rv)) ∧ (Fr (fun j => j = 66 ∨ j = 68 ∨ j = 72 ∨ j = 71 ∨ j = 73 ∨ j = 74 ∨ j = 75 ∨ j = 76) ws u)) := by
  refine q_entMi RX5 [(0, .ref (ad 66)), (1, .int (iZ rounds))] (by decide) rfl rfl (Nat.le_of_ble_eq_true rfl) rfl ?_
  intro p e s m args below meth c hc hr hlk
  have i5 : ∀ w ∈ u_ws RX5 TX5 16, w ∈ wsX5_run := by decide +kernel
  have f52 := hc.1.2.2.2.2 (.fieldLink RX5 52 "GlobalRoutesModel" "thrown" "I") (by decide +kernel)
  have f123 := hc.1.2.2.2.2 (.fieldLink RX5 123 "GlobalRoutesModel" "rounds" "I") (by decide +kernel)
  have f63 := hc.1.2.2.2.2 (.fieldLink RX5 63 "GlobalRoutesModel" "nets" "I") (by decide +kernel)
  have f13 := hc.1.2.2.2.2 (.fieldLink RX5 13 "GlobalRoutesModel" "histories" "[I") (by decide +kernel)
  have f16 := hc.1.2.2.2.2 (.fieldLink RX5 16 "GlobalRoutesModel" "pins" "[I") (by decide +kernel)
  have f22 := hc.1.2.2.2.2 (.fieldLink RX5 22 "GlobalRoutesModel" "hasRoute" "[Z") (by decide +kernel)
  have fr0 : Fr (fun j => j = 66 ∨ j = 68 ∨ j = 72 ∨ j = 71 ∨ j = 73 ∨ j = 74 ∨ j = 75 ∨ j = 76) ws ws := Fr.rfl
  have hn := hW.le; have hw2 := hW.1
  refine q_aload_n hc 0 dX5_run_0 rfl ?_
  refine q_iconstN hc 0 dX5_run_1 rfl ?_
  refine q_put (ty := .int) hc 66 0 i5 tyX5 tyX5_ok nmX5 h66 rfl (by decide) f52 rfl rfl (by decide +kernel) rfl rfl (Nat.le_of_ble_eq_true rfl) rfl dX5_run_2 (fun u1 hn' hf' => ?_)
  have hq2 : u1[66]? = some (ad 66, mO ad w h 0 nc rc) := hn'
  have hq3 := (hf' 67 (by omega)).trans m67
  have hq4 := (hf' 68 (by omega)).trans m68
  have hq5 := (hf' 69 (by omega)).trans m69
  have hq6 := (hf' 70 (by omega)).trans m70
  have hq7 := (hf' 71 (by omega)).trans m71
  have hq8 := (hf' 72 (by omega)).trans m72
  have hq9 := (hf' 73 (by omega)).trans m73
  have hq10 := (hf' 74 (by omega)).trans m74
  have hq11 := (hf' 75 (by omega)).trans m75
  have hq12 := (hf' 76 (by omega)).trans m76
  have fr13 := Fr.one hf'
  refine q_aload_n hc 0 dX5_run_5 rfl ?_
  refine q_iload_n hc 1 dX5_run_6 rfl ?_
  refine q_if_lt hc 16 dX5_run_7 (by decide) (by omega) (fun c14 => ?_) (fun c14 => ?_)
  · exact absurd c14 (by omega)
  · refine q_iload_n hc 1 dX5_run_10 rfl ?_
    refine q_bipushN hc 10 dX5_run_11 (by decide +kernel) ?_
    refine q_icmp_le hc 20 dX5_run_13 (by decide) (by omega) (by omega) (fun c15 => ?_) (fun c15 => ?_)
    · refine q_iconstN hc 0 dX5_run_20 rfl ?_
      refine q_iconstN hc 1 dX5_run_21 rfl ?_
      refine q_callMi (As := [.int (iZ (bZ false)), .int (iZ ((1 : Nat) : Int))]) (rest := []) hc (c_X5_fails l D K u1 ad w h nc rc false 1 hq2 (by omega)) (cwV 2 hc.1.2.2.2.2 gX5_run_X5_fails rfl rfl rfl (by decide +kernel) ⟨Nat.le_of_ble_eq_true rfl, Nat.le_of_ble_eq_true rfl⟩) 66 hq2 rfl rfl rfl (by decide) dX5_run_22 ⟨Nat.zero_le _, Nat.zero_le _⟩ (fun r17 u16 hp' => ?_)
      obtain ⟨hr20, hq18, fr19⟩ := hp'
      have hq21 := (fr19.at 67 (by omega)).trans hq3
      have hq22 := (fr19.at 68 (by omega)).trans hq4
      have hq23 := (fr19.at 69 (by omega)).trans hq5
      have hq24 := (fr19.at 70 (by omega)).trans hq6
      have hq25 := (fr19.at 71 (by omega)).trans hq7
      have hq26 := (fr19.at 72 (by omega)).trans hq8
      have hq27 := (fr19.at 73 (by omega)).trans hq9
      have hq28 := (fr19.at 74 (by omega)).trans hq10
      have hq29 := (fr19.at 75 (by omega)).trans hq11
      have hq30 := (fr19.at 76 (by omega)).trans hq12
      subst hr20
      have hq31 : u16[66]? = some (ad 66, mO ad w h 0 nc rc) := hq18
      refine q_ifz_eq hc 30 dX5_run_25 (by decide) (fun c32 => ?_) (fun c32 => ?_)
      · refine q_iconstN hc 0 dX5_run_30 rfl ?_
        refine q_istore_n hc [(2, .int (iZ ((0 : Nat) : Int))), (0, .ref (ad 66)), (1, .int (iZ rounds))] dX5_run_31 rfl (by decide) rfl ?_
        refine V.sub [1, 2, 0] rfl ?_
        refine V.loop (α := Nat × (Nat → Nat) × (Nat → Nat → Bool) × (Nat → Int) × (Nat → Nat) × (Nat → Bool) × (Nat → Nat) × (Nat → Nat) × (Nat → Bool)) (fun x => rounds.toNat - x.1) (fun x u => (x.1 ≤ rounds.toNat) ∧ ((rnN (nbW w h) (btW w h) n nc cap pn pi (rounds.toNat - x.1) ((x.2.1, x.2.2.1, x.2.2.2.1), x.2.2.2.2.1)).2 = (rnN (nbW w h) (btW w h) n nc cap pn pi rounds.toNat ((us, ro, rl), hi)).2) ∧ (x.1 + (rnN (nbW w h) (btW w h) n nc cap pn pi (rounds.toNat - x.1) ((x.2.1, x.2.2.1, x.2.2.2.1), x.2.2.2.2.1)).1 = (rnN (nbW w h) (btW w h) n nc cap pn pi rounds.toNat ((us, ro, rl), hi)).1) ∧ (Inv n nc (x.2.1, x.2.2.1, x.2.2.2.1)) ∧ (∀ k, k < 2 * n → x.2.2.2.2.1 k ≤ hb + x.1) ∧ (u[68]? = some (ad 68, iN K 128 (mA n 0 x.2.2.2.2.1))) ∧ (u[72]? = some (ad 72, zA K 1536 (mRo n x.2.2.1))) ∧ (u[71]? = some (ad 71, zA K 12 (mHr x.2.2.2.1))) ∧ (u[73]? = some (ad 73, zA K 64 x.2.2.2.2.2.1)) ∧ (u[74]? = some (ad 74, jN K 64 x.2.2.2.2.2.2.1)) ∧ (u[75]? = some (ad 75, jN K 128 x.2.2.2.2.2.2.2.1)) ∧ (u[76]? = some (ad 76, zA K 128 x.2.2.2.2.2.2.2.2)) ∧ (Fr (fun j => j = 68 ∨ j = 72 ∨ j = 71 ∨ j = 73 ∨ j = 74 ∨ j = 75 ∨ j = 76) u16 u)) (fun x => [(0, .ref (ad 66)), (1, .int (iZ rounds)), (2, .int (iZ ((x.1 : Nat) : Int)))]) (0, us, ro, rl, hi, tr, di, cm, rs) ⟨(Nat.zero_le _), (rfl), (Nat.zero_add _), (hI), (hhb), (hq22), (hq26), (hq25), (hq27), (hq28), (hq29), (hq30), (Fr.rfl)⟩ rfl ?_
        intro x ih32 u33 hI
        obtain ⟨i, U, O, L, hv, tv, dv, cv, rv⟩ := x
        try dsimp only at ih32 hI ⊢
        obtain ⟨hi0, hR, hR2, hI9, hhv, hq34, hq35, hq36, hq37, hq38, hq39, hq40, fr41⟩ := hI
        have hq42 := (fr41.at 66 (by omega)).trans hq31
        have hq43 := (fr41.at 67 (by omega)).trans hq21
        have hq44 := (fr41.at 69 (by omega)).trans hq23
        have hq45 := (fr41.at 70 (by omega)).trans hq24
        refine q_iload_n hc 2 dX5_run_32 rfl ?_
        refine q_iload_n hc 1 dX5_run_33 rfl ?_
        refine q_icmp_ge hc 136 dX5_run_34 (by decide) (by omega) (by omega) (fun c46 => ?_) (fun c46 => ?_)
        · have hE : rnN (nbW w h) (btW w h) n nc cap pn pi (rounds.toNat - i) ((U, O, L), hv) = (0, ((U, O, L), hv)) := by rw [show rounds.toNat - i = 0 by omega]; rfl
          have hE2 : (rnN (nbW w h) (btW w h) n nc cap pn pi rounds.toNat ((us, ro, rl), hi)).2 = ((U, O, L), hv) := by rw [← hR, hE]
          have hE1 : (rnN (nbW w h) (btW w h) n nc cap pn pi rounds.toNat ((us, ro, rl), hi)).1 = i := by rw [← hR2, hE]; rfl
          refine q_norm_iN (g := mA n 0 (rnN (nbW w h) (btW w h) n nc cap pn pi rounds.toNat ((us, ro, rl), hi)).2.2) hc 68 hq34 (fun k _ => by rw [hE2]) (fun u47 hn' hf' => ?_)
          have hq48 : u47[68]? = some (ad 68, iN K 128 (mA n 0 (rnN (nbW w h) (btW w h) n nc cap pn pi rounds.toNat ((us, ro, rl), hi)).2.2)) := hn'
          have hq49 := (hf' 66 (by omega)).trans hq42
          have hq50 := (hf' 67 (by omega)).trans hq43
          have hq51 := (hf' 69 (by omega)).trans hq44
          have hq52 := (hf' 70 (by omega)).trans hq45
          have hq53 := (hf' 71 (by omega)).trans hq36
          have hq54 := (hf' 72 (by omega)).trans hq35
          have hq55 := (hf' 73 (by omega)).trans hq37
          have hq56 := (hf' 74 (by omega)).trans hq38
          have hq57 := (hf' 75 (by omega)).trans hq39
          have hq58 := (hf' 76 (by omega)).trans hq40
          have fr59 := Fr.one hf'
          refine q_norm_zA (g := mRo n (rnN (nbW w h) (btW w h) n nc cap pn pi rounds.toNat ((us, ro, rl), hi)).2.1.2.1) hc 72 hq54 (fun k _ => by rw [hE2]) (fun u60 hn' hf' => ?_)
          have hq61 : u60[72]? = some (ad 72, zA K 1536 (mRo n (rnN (nbW w h) (btW w h) n nc cap pn pi rounds.toNat ((us, ro, rl), hi)).2.1.2.1)) := hn'
          have hq62 := (hf' 66 (by omega)).trans hq49
          have hq63 := (hf' 67 (by omega)).trans hq50
          have hq64 := (hf' 68 (by omega)).trans hq48
          have hq65 := (hf' 69 (by omega)).trans hq51
          have hq66 := (hf' 70 (by omega)).trans hq52
          have hq67 := (hf' 71 (by omega)).trans hq53
          have hq68 := (hf' 73 (by omega)).trans hq55
          have hq69 := (hf' 74 (by omega)).trans hq56
          have hq70 := (hf' 75 (by omega)).trans hq57
          have hq71 := (hf' 76 (by omega)).trans hq58
          have fr72 := Fr.one hf'
          refine q_norm_zA (g := mHr (rnN (nbW w h) (btW w h) n nc cap pn pi rounds.toNat ((us, ro, rl), hi)).2.1.2.2) hc 71 hq67 (fun k _ => by rw [hE2]) (fun u73 hn' hf' => ?_)
          have hq74 : u73[71]? = some (ad 71, zA K 12 (mHr (rnN (nbW w h) (btW w h) n nc cap pn pi rounds.toNat ((us, ro, rl), hi)).2.1.2.2)) := hn'
          have hq75 := (hf' 66 (by omega)).trans hq62
          have hq76 := (hf' 67 (by omega)).trans hq63
          have hq77 := (hf' 68 (by omega)).trans hq64
          have hq78 := (hf' 69 (by omega)).trans hq65
          have hq79 := (hf' 70 (by omega)).trans hq66
          have hq80 := (hf' 72 (by omega)).trans hq61
          have hq81 := (hf' 73 (by omega)).trans hq68
          have hq82 := (hf' 74 (by omega)).trans hq69
          have hq83 := (hf' 75 (by omega)).trans hq70
          have hq84 := (hf' 76 (by omega)).trans hq71
          have fr85 := Fr.one hf'
          refine q_aload_n hc 0 dX5_run_136 rfl ?_
          refine q_dup hc dX5_run_137 rfl ?_
          refine q_get hc 66 10 i5 hq75 rfl (by decide) f123 rfl rfl dX5_run_138 ?_
          refine q_iload_n hc 2 dX5_run_141 rfl ?_
          refine q_iaddN hc dX5_run_142 ?_
          refine q_put (ty := .int) hc 66 10 i5 tyX5 tyX5_ok nmX5 hq75 rfl (by decide) f123 rfl rfl (by decide +kernel) rfl rfl (Nat.le_of_ble_eq_true rfl) rfl dX5_run_143 (fun u86 hn' hf' => ?_)
          have hq87 : u86[66]? = some (ad 66, mO ad w h 0 nc (rc + i)) := hn'
          have hq88 := (hf' 67 (by omega)).trans hq76
          have hq89 := (hf' 68 (by omega)).trans hq77
          have hq90 := (hf' 69 (by omega)).trans hq78
          have hq91 := (hf' 70 (by omega)).trans hq79
          have hq92 := (hf' 71 (by omega)).trans hq74
          have hq93 := (hf' 72 (by omega)).trans hq80
          have hq94 := (hf' 73 (by omega)).trans hq81
          have hq95 := (hf' 74 (by omega)).trans hq82
          have hq96 := (hf' 75 (by omega)).trans hq83
          have hq97 := (hf' 76 (by omega)).trans hq84
          have fr98 := Fr.one hf'
          refine q_iload_n hc 2 dX5_run_146 rfl ?_
          exact q_iretM (z := ((i : Nat) : Int)) hc (⟨_, _, _, _, congrArg (fun a : Nat => iZ (a : Int)) hE1.symm, by rw [hE1]; exact hq87, hq89, hq93, hq92, hq94, hq95, hq96, hq97, (((((((fr0.trans fr13 (fun _ _ => by omega)).trans fr19 (fun _ _ => by omega)).trans fr41 (fun _ _ => by omega)).trans fr59 (fun _ _ => by omega)).trans fr72 (fun _ _ => by omega)).trans fr85 (fun _ _ => by omega)).trans fr98 (fun _ _ => by omega))⟩) hr hlk dX5_run_147
        · refine q_aload_n hc 0 dX5_run_37 rfl ?_
          refine q_callPz (As := []) (rest := []) hc (c_X5_isDone l D K u33 ad w h n 0 nc rc c0 cap U pn L O hq42 hq43 hq44 hq36 hq35 hn hnc hI9.1 hc0 hcap (hI9.us hnc) hpn) (cwV 0 hc.1.2.2.2.2 gX5_run_X5_isDone rfl rfl rfl (by decide +kernel) ⟨Nat.le_of_ble_eq_true rfl, Nat.le_of_ble_eq_true rfl⟩) 66 hq42 rfl rfl rfl (by decide) dX5_run_38 ⟨Nat.zero_le _, Nat.zero_le _⟩ ?_
          refine q_ifz_ne hc 136 dX5_run_41 (by decide) (fun c101 => ?_) (fun c101 => ?_)
          · have hE : rnN (nbW w h) (btW w h) n nc cap pn pi (rounds.toNat - i) ((U, O, L), hv) = (0, ((U, O, L), hv)) := rnN_stop c101
            have hE2 : (rnN (nbW w h) (btW w h) n nc cap pn pi rounds.toNat ((us, ro, rl), hi)).2 = ((U, O, L), hv) := by rw [← hR, hE]
            have hE1 : (rnN (nbW w h) (btW w h) n nc cap pn pi rounds.toNat ((us, ro, rl), hi)).1 = i := by rw [← hR2, hE]; rfl
            refine q_norm_iN (g := mA n 0 (rnN (nbW w h) (btW w h) n nc cap pn pi rounds.toNat ((us, ro, rl), hi)).2.2) hc 68 hq34 (fun k _ => by rw [hE2]) (fun u102 hn' hf' => ?_)
            have hq103 : u102[68]? = some (ad 68, iN K 128 (mA n 0 (rnN (nbW w h) (btW w h) n nc cap pn pi rounds.toNat ((us, ro, rl), hi)).2.2)) := hn'
            have hq104 := (hf' 66 (by omega)).trans hq42
            have hq105 := (hf' 67 (by omega)).trans hq43
            have hq106 := (hf' 69 (by omega)).trans hq44
            have hq107 := (hf' 70 (by omega)).trans hq45
            have hq108 := (hf' 71 (by omega)).trans hq36
            have hq109 := (hf' 72 (by omega)).trans hq35
            have hq110 := (hf' 73 (by omega)).trans hq37
            have hq111 := (hf' 74 (by omega)).trans hq38
            have hq112 := (hf' 75 (by omega)).trans hq39
            have hq113 := (hf' 76 (by omega)).trans hq40
            have fr114 := Fr.one hf'
            refine q_norm_zA (g := mRo n (rnN (nbW w h) (btW w h) n nc cap pn pi rounds.toNat ((us, ro, rl), hi)).2.1.2.1) hc 72 hq109 (fun k _ => by rw [hE2]) (fun u115 hn' hf' => ?_)
            have hq116 : u115[72]? = some (ad 72, zA K 1536 (mRo n (rnN (nbW w h) (btW w h) n nc cap pn pi rounds.toNat ((us, ro, rl), hi)).2.1.2.1)) := hn'
            have hq117 := (hf' 66 (by omega)).trans hq104
            have hq118 := (hf' 67 (by omega)).trans hq105
            have hq119 := (hf' 68 (by omega)).trans hq103
            have hq120 := (hf' 69 (by omega)).trans hq106
            have hq121 := (hf' 70 (by omega)).trans hq107
            have hq122 := (hf' 71 (by omega)).trans hq108
            have hq123 := (hf' 73 (by omega)).trans hq110
            have hq124 := (hf' 74 (by omega)).trans hq111
            have hq125 := (hf' 75 (by omega)).trans hq112
            have hq126 := (hf' 76 (by omega)).trans hq113
            have fr127 := Fr.one hf'
            refine q_norm_zA (g := mHr (rnN (nbW w h) (btW w h) n nc cap pn pi rounds.toNat ((us, ro, rl), hi)).2.1.2.2) hc 71 hq122 (fun k _ => by rw [hE2]) (fun u128 hn' hf' => ?_)
            have hq129 : u128[71]? = some (ad 71, zA K 12 (mHr (rnN (nbW w h) (btW w h) n nc cap pn pi rounds.toNat ((us, ro, rl), hi)).2.1.2.2)) := hn'
            have hq130 := (hf' 66 (by omega)).trans hq117
            have hq131 := (hf' 67 (by omega)).trans hq118
            have hq132 := (hf' 68 (by omega)).trans hq119
            have hq133 := (hf' 69 (by omega)).trans hq120
            have hq134 := (hf' 70 (by omega)).trans hq121
            have hq135 := (hf' 72 (by omega)).trans hq116
            have hq136 := (hf' 73 (by omega)).trans hq123
            have hq137 := (hf' 74 (by omega)).trans hq124
            have hq138 := (hf' 75 (by omega)).trans hq125
            have hq139 := (hf' 76 (by omega)).trans hq126
            have fr140 := Fr.one hf'
            refine q_aload_n hc 0 dX5_run_136 rfl ?_
            refine q_dup hc dX5_run_137 rfl ?_
            refine q_get hc 66 10 i5 hq130 rfl (by decide) f123 rfl rfl dX5_run_138 ?_
            refine q_iload_n hc 2 dX5_run_141 rfl ?_
            refine q_iaddN hc dX5_run_142 ?_
            refine q_put (ty := .int) hc 66 10 i5 tyX5 tyX5_ok nmX5 hq130 rfl (by decide) f123 rfl rfl (by decide +kernel) rfl rfl (Nat.le_of_ble_eq_true rfl) rfl dX5_run_143 (fun u141 hn' hf' => ?_)
            have hq142 : u141[66]? = some (ad 66, mO ad w h 0 nc (rc + i)) := hn'
            have hq143 := (hf' 67 (by omega)).trans hq131
            have hq144 := (hf' 68 (by omega)).trans hq132
            have hq145 := (hf' 69 (by omega)).trans hq133
            have hq146 := (hf' 70 (by omega)).trans hq134
            have hq147 := (hf' 71 (by omega)).trans hq129
            have hq148 := (hf' 72 (by omega)).trans hq135
            have hq149 := (hf' 73 (by omega)).trans hq136
            have hq150 := (hf' 74 (by omega)).trans hq137
            have hq151 := (hf' 75 (by omega)).trans hq138
            have hq152 := (hf' 76 (by omega)).trans hq139
            have fr153 := Fr.one hf'
            refine q_iload_n hc 2 dX5_run_146 rfl ?_
            exact q_iretM (z := ((i : Nat) : Int)) hc (⟨_, _, _, _, congrArg (fun a : Nat => iZ (a : Int)) hE1.symm, by rw [hE1]; exact hq142, hq144, hq148, hq147, hq149, hq150, hq151, hq152, (((((((fr0.trans fr13 (fun _ _ => by omega)).trans fr19 (fun _ _ => by omega)).trans fr41 (fun _ _ => by omega)).trans fr114 (fun _ _ => by omega)).trans fr127 (fun _ _ => by omega)).trans fr140 (fun _ _ => by omega)).trans fr153 (fun _ _ => by omega))⟩) hr hlk dX5_run_147
          · refine q_iconstN hc 0 dX5_run_44 rfl ?_
            refine q_istore_n hc [(3, .int (iZ ((0 : Nat) : Int))), (0, .ref (ad 66)), (1, .int (iZ rounds)), (2, .int (iZ ((i : Nat) : Int)))] dX5_run_45 rfl (by decide) rfl ?_
            refine V.sub [1, 2, 3, 0] rfl ?_
            refine V.loop (α := Nat × (Nat → Nat) × (Nat → Nat → Bool) × (Nat → Int) × (Nat → Bool) × (Nat → Nat) × (Nat → Nat) × (Nat → Bool)) (fun x => nc - x.1) (fun x u => (x.1 ≤ nc) ∧ ((x.2.1, x.2.2.1, x.2.2.2.1) = plS (nbW w h) (btW w h) n cap hv pn pi (U, O, L) x.1) ∧ (Inv n nc (x.2.1, x.2.2.1, x.2.2.2.1)) ∧ (u[72]? = some (ad 72, zA K 1536 (mRo n x.2.2.1))) ∧ (u[71]? = some (ad 71, zA K 12 (mHr x.2.2.2.1))) ∧ (u[73]? = some (ad 73, zA K 64 x.2.2.2.2.1)) ∧ (u[74]? = some (ad 74, jN K 64 x.2.2.2.2.2.1)) ∧ (u[75]? = some (ad 75, jN K 128 x.2.2.2.2.2.2.1)) ∧ (u[76]? = some (ad 76, zA K 128 x.2.2.2.2.2.2.2)) ∧ (Fr (fun j => j = 72 ∨ j = 71 ∨ j = 73 ∨ j = 74 ∨ j = 75 ∨ j = 76) u33 u)) (fun x => [(0, .ref (ad 66)), (1, .int (iZ rounds)), (2, .int (iZ ((i : Nat) : Int))), (3, .int (iZ ((x.1 : Nat) : Int)))]) (0, U, O, L, tv, dv, cv, rv) ⟨(Nat.zero_le _), (rfl), (hI9), (hq35), (hq36), (hq37), (hq38), (hq39), (hq40), (Fr.rfl)⟩ rfl ?_
            intro x ih46 u154 hI
            obtain ⟨k, U2, O2, L2, t2, d2, c2, r2⟩ := x
            try dsimp only at ih46 hI ⊢
            obtain ⟨hk, hS, hI2, hq155, hq156, hq157, hq158, hq159, hq160, fr161⟩ := hI
            have hq162 := (fr161.at 66 (by omega)).trans hq42
            have hq163 := (fr161.at 67 (by omega)).trans hq43
            have hq164 := (fr161.at 68 (by omega)).trans hq34
            have hq165 := (fr161.at 69 (by omega)).trans hq44
            have hq166 := (fr161.at 70 (by omega)).trans hq45
            refine q_iload_n hc 3 dX5_run_46 rfl ?_
            refine q_aload_n hc 0 dX5_run_47 rfl ?_
            refine q_get hc 66 5 i5 hq162 rfl (by decide) f63 rfl rfl dX5_run_48 ?_
            refine q_icmpN_ge hc 93 dX5_run_51 (by decide) (by omega) (by omega) (fun c167 => ?_) (fun c167 => ?_)
            · obtain rfl : nc = k := by omega
              have hu9 := hI2.us hnc
              refine q_iconstN hc 0 dX5_run_93 rfl ?_
              refine q_istore_n hc [(3, .int (iZ ((0 : Nat) : Int))), (0, .ref (ad 66)), (1, .int (iZ rounds)), (2, .int (iZ ((i : Nat) : Int)))] dX5_run_94 rfl (by decide) rfl ?_
              refine V.sub [1, 2, 3, 0] rfl ?_
              refine V.loop (α := Nat × (Nat → Nat)) (fun x => 128 - x.1) (fun x u => (x.1 ≤ 128) ∧ (∀ z, x.2 z = if z < x.1 then mA n 0 (fun k => hv k + (if 0 < U2 k - cap k then 1 else 0)) z else mA n 0 hv z) ∧ (u[68]? = some (ad 68, iN K 128 x.2)) ∧ (Fr (fun j => j = 68) u154 u)) (fun x => [(0, .ref (ad 66)), (1, .int (iZ rounds)), (2, .int (iZ ((i : Nat) : Int))), (3, .int (iZ ((x.1 : Nat) : Int)))]) (0, mA n 0 hv) ⟨(Nat.zero_le _), (fun k => by simp), (hq164), (Fr.rfl)⟩ rfl ?_
              intro x ih95 u168 hI
              obtain ⟨b, f⟩ := x
              try dsimp only at ih95 hI ⊢
              obtain ⟨hb, hf, hq169, fr170⟩ := hI
              have hq171 := (fr170.at 66 (by omega)).trans hq162
              have hq172 := (fr170.at 67 (by omega)).trans hq163
              have hq173 := (fr170.at 69 (by omega)).trans hq165
              have hq174 := (fr170.at 70 (by omega)).trans hq166
              have hq175 := (fr170.at 71 (by omega)).trans hq156
              have hq176 := (fr170.at 72 (by omega)).trans hq155
              have hq177 := (fr170.at 73 (by omega)).trans hq157
              have hq178 := (fr170.at 74 (by omega)).trans hq158
              have hq179 := (fr170.at 75 (by omega)).trans hq159
              have hq180 := (fr170.at 76 (by omega)).trans hq160
              refine q_iload_n hc 3 dX5_run_95 rfl ?_
              refine q_sipushN hc 128 dX5_run_96 (by decide +kernel) ?_
              refine q_icmpN_ge hc 130 dX5_run_99 (by decide) (by omega) (by omega) (fun c181 => ?_) (fun c181 => ?_)
              · obtain rfl : b = 128 := by omega
                refine q_norm_iN (g := mA n 0 (fun k => hv k + (if 0 < U2 k - cap k then 1 else 0))) hc 68 hq169 (fun k hk => by rw [hf k, if_pos hk]) (fun u182 hn' hf' => ?_)
                have hq183 : u182[68]? = some (ad 68, iN K 128 (mA n 0 (fun k => hv k + (if 0 < U2 k - cap k then 1 else 0)))) := hn'
                have hq184 := (hf' 66 (by omega)).trans hq171
                have hq185 := (hf' 67 (by omega)).trans hq172
                have hq186 := (hf' 69 (by omega)).trans hq173
                have hq187 := (hf' 70 (by omega)).trans hq174
                have hq188 := (hf' 71 (by omega)).trans hq175
                have hq189 := (hf' 72 (by omega)).trans hq176
                have hq190 := (hf' 73 (by omega)).trans hq177
                have hq191 := (hf' 74 (by omega)).trans hq178
                have hq192 := (hf' 75 (by omega)).trans hq179
                have hq193 := (hf' 76 (by omega)).trans hq180
                have fr194 := Fr.one hf'
                refine q_iincN (q := 2) hc 1 [(2, .int (iZ ((i + 1 : Nat) : Int))), (0, .ref (ad 66)), (1, .int (iZ rounds)), (3, .int (iZ ((128 : Nat) : Int)))] dX5_run_130 rfl rfl (by decide) rfl ?_
                refine q_goto hc 32 dX5_run_133 (by decide) ?_
                refine V.sub [1, 2, 0] rfl ?_
                exact ih32 (i + 1, U2, O2, L2, fun k => hv k + (if 0 < U2 k - cap k then 1 else 0), t2, d2, c2, r2) _ (by omega) ⟨(by omega), (by rw [← hR, show rounds.toNat - i = (rounds.toNat - (i + 1)) + 1 by omega, rnN_go (show dnB n nc cap pn (U, O, L) = false from c101), rdS_eq hS]), (by rw [← hR2, show rounds.toNat - i = (rounds.toNat - (i + 1)) + 1 by omega, rnN_go (show dnB n nc cap pn (U, O, L) = false from c101), rdS_eq hS]; exact (by omega : ∀ a9 : Nat, i + 1 + a9 = i + (a9 + 1)) _), (hI2), (fun k hk => by have h9 := hhv k hk; show hv k + (if _ then 1 else 0) ≤ _; split <;> omega), (hq183), (hq189), (hq188), (hq190), (hq191), (hq192), (hq193), ((((fr41.trans fr161 (fun _ _ => by omega)).trans fr170 (fun _ _ => by omega)).trans fr194 (fun _ _ => by omega)))⟩
              · refine q_aload_n hc 0 dX5_run_102 rfl ?_
                refine q_get hc 66 4 i5 hq171 rfl (by decide) f13 rfl rfl dX5_run_103 ?_
                refine q_iload_n hc 3 dX5_run_106 rfl ?_
                refine q_dup2 hc dX5_run_107 rfl rfl ?_
                refine q_ialdN (j := b) hc 68 hq169 rfl (by omega) (by omega) dX5_run_108 ?_
                have u1 := mA_bd (z := 0) (n := n) (f := hv) (B := 5120) (fun z hz => by have := hhv z hz; omega) (by omega) (show b < 128 by omega); have u3 := mA_bd (z := 0) (n := n) (f := fun k => U2 k - cap k) (B := 12) (fun z hz => by have := hu9 z hz; have e7 : (U2, O2, L2).1 z = U2 z := rfl; omega) (by omega) (show b < 128 by omega)
                refine q_aload_n hc 0 dX5_run_109 rfl ?_
                refine q_iload_n hc 3 dX5_run_110 rfl ?_
                refine q_callPn (As := [.int (iZ ((b : Nat) : Int))]) (rest := [.int (iZ ((f b : Nat) : Int)), .int (iZ ((b : Nat) : Int)), .ref (ad 68)]) hc (c_X5_over l D K u168 ad w h n 0 nc rc b c0 cap U2 O2 hq171 hq172 hq176 (by omega) hnc hI2.1 hc0 hcap hu9) (cwV 1 hc.1.2.2.2.2 gX5_run_X5_over rfl rfl rfl (by decide +kernel) ⟨Nat.le_of_ble_eq_true rfl, Nat.le_of_ble_eq_true rfl⟩) 66 hq171 rfl rfl rfl (by simp [Value.category]) dX5_run_111 ⟨Nat.zero_le _, Nat.zero_le _⟩ ?_
                refine q_if_le hc 121 dX5_run_114 (by decide) (by omega) (fun c197 => ?_) (fun c197 => ?_)
                · refine q_iconstN hc 0 dX5_run_121 rfl ?_
                  refine q_iaddN hc dX5_run_122 ?_
                  refine V.topi (show _ = ((mA n 0 (fun k => hv k + (if 0 < U2 k - cap k then 1 else 0)) b : Nat) : Int) from by rw [← mA_h1, if_neg (by omega)]; have e8 := hf b; rw [if_neg (by omega)] at e8; rw [e8]) ?_
                  refine q_iastN (j := b) (x := mA n 0 (fun k => hv k + (if 0 < U2 k - cap k then 1 else 0)) b) hc 68 hq169 rfl (by omega) (by omega) dX5_run_123 (fun u198 hn' hf' => ?_)
                  have hq199 : u198[68]? = some (ad 68, iN K 128 (va_up f b (mA n 0 (fun k => hv k + (if 0 < U2 k - cap k then 1 else 0)) b))) := hn'
                  have hq200 := (hf' 66 (by omega)).trans hq171
                  have hq201 := (hf' 67 (by omega)).trans hq172
                  have hq202 := (hf' 69 (by omega)).trans hq173
                  have hq203 := (hf' 70 (by omega)).trans hq174
                  have hq204 := (hf' 71 (by omega)).trans hq175
                  have hq205 := (hf' 72 (by omega)).trans hq176
                  have hq206 := (hf' 73 (by omega)).trans hq177
                  have hq207 := (hf' 74 (by omega)).trans hq178
                  have hq208 := (hf' 75 (by omega)).trans hq179
                  have hq209 := (hf' 76 (by omega)).trans hq180
                  have fr210 := Fr.one hf'
                  refine q_iincN (q := 3) hc 1 [(3, .int (iZ ((b + 1 : Nat) : Int))), (0, .ref (ad 66)), (1, .int (iZ rounds)), (2, .int (iZ ((i : Nat) : Int)))] dX5_run_124 rfl rfl (by decide) rfl ?_
                  refine q_goto hc 95 dX5_run_127 (by decide) ?_
                  refine V.sub [1, 2, 3, 0] rfl ?_
                  exact ih95 (b + 1, va_up f b (mA n 0 (fun k => hv k + (if 0 < U2 k - cap k then 1 else 0)) b)) _ (by omega) ⟨(by omega), (upd_hf (g := mA n 0 (fun k => hv k + (if 0 < U2 k - cap k then 1 else 0))) hf), (hq199), ((fr170.trans fr210 (fun _ _ => by omega)))⟩
                · refine q_iconstN hc 1 dX5_run_117 rfl ?_
                  refine q_goto hc 122 dX5_run_118 (by decide) ?_
                  refine q_iaddN hc dX5_run_122 ?_
                  refine V.topi (show _ = ((mA n 0 (fun k => hv k + (if 0 < U2 k - cap k then 1 else 0)) b : Nat) : Int) from by rw [← mA_h1, if_pos (by omega)]; have e8 := hf b; rw [if_neg (by omega)] at e8; rw [e8]) ?_
                  refine q_iastN (j := b) (x := mA n 0 (fun k => hv k + (if 0 < U2 k - cap k then 1 else 0)) b) hc 68 hq169 rfl (by omega) (by omega) dX5_run_123 (fun u211 hn' hf' => ?_)
                  have hq212 : u211[68]? = some (ad 68, iN K 128 (va_up f b (mA n 0 (fun k => hv k + (if 0 < U2 k - cap k then 1 else 0)) b))) := hn'
                  have hq213 := (hf' 66 (by omega)).trans hq171
                  have hq214 := (hf' 67 (by omega)).trans hq172
                  have hq215 := (hf' 69 (by omega)).trans hq173
                  have hq216 := (hf' 70 (by omega)).trans hq174
                  have hq217 := (hf' 71 (by omega)).trans hq175
                  have hq218 := (hf' 72 (by omega)).trans hq176
                  have hq219 := (hf' 73 (by omega)).trans hq177
                  have hq220 := (hf' 74 (by omega)).trans hq178
                  have hq221 := (hf' 75 (by omega)).trans hq179
                  have hq222 := (hf' 76 (by omega)).trans hq180
                  have fr223 := Fr.one hf'
                  refine q_iincN (q := 3) hc 1 [(3, .int (iZ ((b + 1 : Nat) : Int))), (0, .ref (ad 66)), (1, .int (iZ rounds)), (2, .int (iZ ((i : Nat) : Int)))] dX5_run_124 rfl rfl (by decide) rfl ?_
                  refine q_goto hc 95 dX5_run_127 (by decide) ?_
                  refine V.sub [1, 2, 3, 0] rfl ?_
                  exact ih95 (b + 1, va_up f b (mA n 0 (fun k => hv k + (if 0 < U2 k - cap k then 1 else 0)) b)) _ (by omega) ⟨(by omega), (upd_hf (g := mA n 0 (fun k => hv k + (if 0 < U2 k - cap k then 1 else 0))) hf), (hq212), ((fr170.trans fr223 (fun _ _ => by omega)))⟩
            · refine q_aload_n hc 0 dX5_run_54 rfl ?_
              refine q_get hc 66 6 i5 hq162 rfl (by decide) f16 rfl rfl dX5_run_55 ?_
              refine q_iload_n hc 3 dX5_run_58 rfl ?_
              refine q_ialdN (j := k) hc 69 hq165 rfl (by omega) (by omega) dX5_run_59 ?_
              have hpn9 := hpn k (by omega)
              refine q_iconstN hc 1 dX5_run_60 rfl ?_
              refine q_icmpN_le hc 87 dX5_run_61 (by decide) (by omega) (by omega) (fun c224 => ?_) (fun c224 => ?_)
              · refine q_iincN (q := 3) hc 1 [(3, .int (iZ ((k + 1 : Nat) : Int))), (0, .ref (ad 66)), (1, .int (iZ rounds)), (2, .int (iZ ((i : Nat) : Int)))] dX5_run_87 rfl rfl (by decide) rfl ?_
                refine q_goto hc 46 dX5_run_90 (by decide) ?_
                refine V.sub [1, 2, 3, 0] rfl ?_
                exact ih46 (k + 1, U2, O2, L2, t2, d2, c2, r2) _ (by omega) ⟨(by omega), (by rw [plS_s, if_neg (by rw [← hS]; unfold ndB; rw [decide_eq_false (show ¬ 2 ≤ pn k by omega)]; simp)]; exact hS), (hI2), (hq155), (hq156), (hq157), (hq158), (hq159), (hq160), (fr161)⟩
              · refine q_aload_n hc 0 dX5_run_64 rfl ?_
                refine q_get hc 66 8 i5 hq162 rfl (by decide) f22 rfl rfl dX5_run_65 ?_
                refine q_iload_n hc 3 dX5_run_68 rfl ?_
                refine q_zald (j := k) hc 71 hq156 rfl (by omega) (by omega) dX5_run_69 ?_
                refine q_ifz_eq hc 81 dX5_run_70 (by decide) (fun c225 => ?_) (fun c225 => ?_)
                · refine q_aload_n hc 0 dX5_run_81 rfl ?_
                  refine q_iload_n hc 3 dX5_run_82 rfl ?_
                  refine q_callMl (As := [.int (iZ ((k : Nat) : Int))]) (rest := []) hc (c_X5_leadNet l D K u154 ad w h n 0 nc rc k c0 cap U2 hv pn L2 pi O2 t2 r2 d2 c2 hq162 hq163 hq164 hq165 hq166 hq156 hq155 hq157 hq158 hq159 hq160 hW hnc (by omega) hI2.1 hc0 hcap (hI2.us hnc) (fun z hz => by have := hhv z hz; omega) (hpn k (by omega)) (by omega) (fun z hz => hpin k z (by omega) hz)) (cwV 1 hc.1.2.2.2.2 gX5_run_X5_leadNet rfl rfl rfl (by decide +kernel) ⟨Nat.le_of_ble_eq_true rfl, Nat.le_of_ble_eq_true rfl⟩) 66 hq162 rfl rfl rfl (by decide) dX5_run_83 ⟨Nat.zero_le _, Nat.zero_le _⟩ (fun r227 u226 hp' => ?_)
                  obtain ⟨x228, x229, x230, x231, hr232, hq233, hq234, hq235, hq236, hq237, hq238, fr239⟩ := hp'
                  have hq240 := (fr239.at 66 (by omega)).trans hq162
                  have hq241 := (fr239.at 67 (by omega)).trans hq163
                  have hq242 := (fr239.at 68 (by omega)).trans hq164
                  have hq243 := (fr239.at 69 (by omega)).trans hq165
                  have hq244 := (fr239.at 70 (by omega)).trans hq166
                  subst hr232
                  refine q_pop2 hc dX5_run_86 rfl ?_
                  refine q_iincN (q := 3) hc 1 [(3, .int (iZ ((k + 1 : Nat) : Int))), (0, .ref (ad 66)), (1, .int (iZ rounds)), (2, .int (iZ ((i : Nat) : Int)))] dX5_run_87 rfl rfl (by decide) rfl ?_
                  refine q_goto hc 46 dX5_run_90 (by decide) ?_
                  refine V.sub [1, 2, 3, 0] rfl ?_
                  exact ih46 (k + 1, adU (sbU U2 (O2 k)) (rtN (nbW w h) (btW w h) n cap hv (pn k) (pi k) U2 (O2 k)), va_up O2 k (rtN (nbW w h) (btW w h) n cap hv (pn k) (pi k) U2 (O2 k)), va_up L2 k ((cnt (rtN (nbW w h) (btW w h) n cap hv (pn k) (pi k) U2 (O2 k)) (2 * n) : Nat) : Int), x228, x229, x230, x231) _ (by omega) ⟨(by omega), (by rw [plS_s, if_pos (by rw [← hS]; unfold ndB; rw [decide_eq_true (show 2 ≤ pn k by omega), show decide (¬ (U2, O2, L2).2.2 k = -1) = false from c225]; rfl), ← hS]; rfl), (hI2.ld hn (by omega) _), (hq233), (hq234), (hq235), (hq236), (hq237), (hq238), ((fr161.trans fr239 (fun _ _ => by omega)))⟩
                · refine q_aload_n hc 0 dX5_run_73 rfl ?_
                  refine q_iload_n hc 3 dX5_run_74 rfl ?_
                  refine q_callPz (As := [.int (iZ ((k : Nat) : Int))]) (rest := []) hc (c_X5_isOverAnywhere l D K u154 ad w h n 0 nc rc k c0 cap U2 O2 hq162 hq163 hq155 (by omega) hn hnc hI2.1 hc0 hcap (hI2.us hnc)) (cwV 1 hc.1.2.2.2.2 gX5_run_X5_isOverAnywhere rfl rfl rfl (by decide +kernel) ⟨Nat.le_of_ble_eq_true rfl, Nat.le_of_ble_eq_true rfl⟩) 66 hq162 rfl rfl rfl (by decide) dX5_run_75 ⟨Nat.zero_le _, Nat.zero_le _⟩ ?_
                  refine q_ifz_eq hc 87 dX5_run_78 (by decide) (fun c247 => ?_) (fun c247 => ?_)
                  · refine q_iincN (q := 3) hc 1 [(3, .int (iZ ((k + 1 : Nat) : Int))), (0, .ref (ad 66)), (1, .int (iZ rounds)), (2, .int (iZ ((i : Nat) : Int)))] dX5_run_87 rfl rfl (by decide) rfl ?_
                    refine q_goto hc 46 dX5_run_90 (by decide) ?_
                    refine V.sub [1, 2, 3, 0] rfl ?_
                    exact ih46 (k + 1, U2, O2, L2, t2, d2, c2, r2) _ (by omega) ⟨(by omega), (by rw [plS_s, if_neg (by rw [← hS]; unfold ndB; rw [decide_eq_true (show 2 ≤ pn k by omega), show decide (¬ (U2, O2, L2).2.2 k = -1) = true from c225, show anyB (fun k9 => (U2, O2, L2).2.1 k k9 && decide (0 < (U2, O2, L2).1 k9 - cap k9)) (2 * n) = false from c247]; decide)]; exact hS), (hI2), (hq155), (hq156), (hq157), (hq158), (hq159), (hq160), (fr161)⟩
                  · refine q_aload_n hc 0 dX5_run_81 rfl ?_
                    refine q_iload_n hc 3 dX5_run_82 rfl ?_
                    refine q_callMl (As := [.int (iZ ((k : Nat) : Int))]) (rest := []) hc (c_X5_leadNet l D K u154 ad w h n 0 nc rc k c0 cap U2 hv pn L2 pi O2 t2 r2 d2 c2 hq162 hq163 hq164 hq165 hq166 hq156 hq155 hq157 hq158 hq159 hq160 hW hnc (by omega) hI2.1 hc0 hcap (hI2.us hnc) (fun z hz => by have := hhv z hz; omega) (hpn k (by omega)) (by omega) (fun z hz => hpin k z (by omega) hz)) (cwV 1 hc.1.2.2.2.2 gX5_run_X5_leadNet rfl rfl rfl (by decide +kernel) ⟨Nat.le_of_ble_eq_true rfl, Nat.le_of_ble_eq_true rfl⟩) 66 hq162 rfl rfl rfl (by decide) dX5_run_83 ⟨Nat.zero_le _, Nat.zero_le _⟩ (fun r249 u248 hp' => ?_)
                    obtain ⟨x250, x251, x252, x253, hr254, hq255, hq256, hq257, hq258, hq259, hq260, fr261⟩ := hp'
                    have hq262 := (fr261.at 66 (by omega)).trans hq162
                    have hq263 := (fr261.at 67 (by omega)).trans hq163
                    have hq264 := (fr261.at 68 (by omega)).trans hq164
                    have hq265 := (fr261.at 69 (by omega)).trans hq165
                    have hq266 := (fr261.at 70 (by omega)).trans hq166
                    subst hr254
                    refine q_pop2 hc dX5_run_86 rfl ?_
                    refine q_iincN (q := 3) hc 1 [(3, .int (iZ ((k + 1 : Nat) : Int))), (0, .ref (ad 66)), (1, .int (iZ rounds)), (2, .int (iZ ((i : Nat) : Int)))] dX5_run_87 rfl rfl (by decide) rfl ?_
                    refine q_goto hc 46 dX5_run_90 (by decide) ?_
                    refine V.sub [1, 2, 3, 0] rfl ?_
                    exact ih46 (k + 1, adU (sbU U2 (O2 k)) (rtN (nbW w h) (btW w h) n cap hv (pn k) (pi k) U2 (O2 k)), va_up O2 k (rtN (nbW w h) (btW w h) n cap hv (pn k) (pi k) U2 (O2 k)), va_up L2 k ((cnt (rtN (nbW w h) (btW w h) n cap hv (pn k) (pi k) U2 (O2 k)) (2 * n) : Nat) : Int), x250, x251, x252, x253) _ (by omega) ⟨(by omega), (by rw [plS_s, if_pos (by rw [← hS]; unfold ndB; rw [decide_eq_true (show 2 ≤ pn k by omega), show decide (¬ (U2, O2, L2).2.2 k = -1) = true from c225, show anyB (fun k9 => (U2, O2, L2).2.1 k k9 && decide (0 < (U2, O2, L2).1 k9 - cap k9)) (2 * n) = true from c247]; rfl), ← hS]; rfl), (hI2.ld hn (by omega) _), (hq255), (hq256), (hq257), (hq258), (hq259), (hq260), ((fr161.trans fr261 (fun _ _ => by omega)))⟩
      · cases c32
    · exact absurd c15 (by omega)

set_option maxRecDepth 100000 in
set_option maxHeartbeats 4000000 in
theorem c_X5_run_e1 (l : Launch) (D : va_G) (K : Nat → ClassId) (ws : va_W) (ad : Nat → Nat) (w h th nc rc : Nat) (rounds : Int) (h66 : ws[66]? = some (ad 66, mO ad w h th nc rc)) (hrounds : -2147483648 ≤ rounds ∧ rounds < 2147483648) (hbad : ¬ (0 ≤ rounds ∧ rounds ≤ 10)) : MMi l yX5_run wsX5_run ({ frames := 1, cells := 0, slots := 0, locals := 22 }) D K ws [.ref (ad 66), .int (iZ rounds)] (fun r u => (r = (iZ ((0 : Nat) : Int))) ∧ (u[66]? = some (ad 66, mO ad w h 1 nc rc)) ∧ (Fr (fun j => j = 66) ws u)) := by
  refine q_entMi RX5 [(0, .ref (ad 66)), (1, .int (iZ rounds))] (by decide) rfl rfl (Nat.le_of_ble_eq_true rfl) rfl ?_
  intro p e s m args below meth c hc hr hlk
  have i5 : ∀ w ∈ u_ws RX5 TX5 16, w ∈ wsX5_run := by decide +kernel
  have f52 := hc.1.2.2.2.2 (.fieldLink RX5 52 "GlobalRoutesModel" "thrown" "I") (by decide +kernel)
  have fr0 : Fr (fun j => j = 66) ws ws := Fr.rfl
  refine q_aload_n hc 0 dX5_run_0 rfl ?_
  refine q_iconstN hc 0 dX5_run_1 rfl ?_
  refine q_put (ty := .int) hc 66 0 i5 tyX5 tyX5_ok nmX5 h66 rfl (by decide) f52 rfl rfl (by decide +kernel) rfl rfl (Nat.le_of_ble_eq_true rfl) rfl dX5_run_2 (fun u1 hn' hf' => ?_)
  have hq2 : u1[66]? = some (ad 66, mO ad w h 0 nc rc) := hn'
  have fr3 := Fr.one hf'
  refine q_aload_n hc 0 dX5_run_5 rfl ?_
  refine q_iload_n hc 1 dX5_run_6 rfl ?_
  refine q_if_lt hc 16 dX5_run_7 (by decide) (by omega) (fun c4 => ?_) (fun c4 => ?_)
  · refine q_iconstN hc 1 dX5_run_16 rfl ?_
    refine q_goto hc 21 dX5_run_17 (by decide) ?_
    refine q_iconstN hc 1 dX5_run_21 rfl ?_
    refine q_callMi (As := [.int (iZ (bZ true)), .int (iZ ((1 : Nat) : Int))]) (rest := []) hc (c_X5_fails l D K u1 ad w h nc rc true 1 hq2 (by omega)) (cwV 2 hc.1.2.2.2.2 gX5_run_X5_fails rfl rfl rfl (by decide +kernel) ⟨Nat.le_of_ble_eq_true rfl, Nat.le_of_ble_eq_true rfl⟩) 66 hq2 rfl rfl rfl (by decide) dX5_run_22 ⟨Nat.zero_le _, Nat.zero_le _⟩ (fun r6 u5 hp' => ?_)
    obtain ⟨hr9, hq7, fr8⟩ := hp'
    subst hr9
    have hq10 : u5[66]? = some (ad 66, mO ad w h 1 nc rc) := hq7
    refine q_ifz_eq hc 30 dX5_run_25 (by decide) (fun c11 => ?_) (fun c11 => ?_)
    · cases c11
    · refine q_iconstN hc 0 dX5_run_28 rfl ?_
      exact q_iretM (z := ((0 : Nat) : Int)) hc (⟨rfl, hq10, ((fr0.trans fr3 (fun _ _ => by omega)).trans fr8 (fun _ _ => by omega))⟩) hr hlk dX5_run_29
  · refine q_iload_n hc 1 dX5_run_10 rfl ?_
    refine q_bipushN hc 10 dX5_run_11 (by decide +kernel) ?_
    refine q_icmp_le hc 20 dX5_run_13 (by decide) (by omega) (by omega) (fun c12 => ?_) (fun c12 => ?_)
    · exact absurd c12 (by omega)
    · refine q_iconstN hc 1 dX5_run_16 rfl ?_
      refine q_goto hc 21 dX5_run_17 (by decide) ?_
      refine q_iconstN hc 1 dX5_run_21 rfl ?_
      refine q_callMi (As := [.int (iZ (bZ true)), .int (iZ ((1 : Nat) : Int))]) (rest := []) hc (c_X5_fails l D K u1 ad w h nc rc true 1 hq2 (by omega)) (cwV 2 hc.1.2.2.2.2 gX5_run_X5_fails rfl rfl rfl (by decide +kernel) ⟨Nat.le_of_ble_eq_true rfl, Nat.le_of_ble_eq_true rfl⟩) 66 hq2 rfl rfl rfl (by decide) dX5_run_22 ⟨Nat.zero_le _, Nat.zero_le _⟩ (fun r14 u13 hp' => ?_)
      obtain ⟨hr17, hq15, fr16⟩ := hp'
      subst hr17
      have hq18 : u13[66]? = some (ad 66, mO ad w h 1 nc rc) := hq15
      refine q_ifz_eq hc 30 dX5_run_25 (by decide) (fun c19 => ?_) (fun c19 => ?_)
      · cases c19
      · refine q_iconstN hc 0 dX5_run_28 rfl ?_
        exact q_iretM (z := ((0 : Nat) : Int)) hc (⟨rfl, hq18, ((fr0.trans fr3 (fun _ _ => by omega)).trans fr16 (fun _ _ => by omega))⟩) hr hlk dX5_run_29
