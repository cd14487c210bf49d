
set_option maxRecDepth 100000 in
set_option maxHeartbeats 4000000 in
theorem c_X1_findRoute (l : Launch) (D : va_G) (K : Nat → ClassId) (ws : va_W) (ad : Nat → Nat) (t : Nat) (pn : Nat) (rl : Int) (w h n : Nat) (cap us hi co di pi : Nat → Nat) (tr ro : Nat → Bool) (nb bt : Nat → Option Nat) (h1 : ws[1]? = some (ad 1, gO ad w h n)) (h2 : ws[2]? = some (ad 2, iN K (2 * n) cap)) (h3 : ws[3]? = some (ad 3, iN K (2 * n) us)) (h4 : ws[4]? = some (ad 4, iN K (2 * n) hi)) (h5 : ws[5]? = some (ad 5, iA K (4 * n) (fun k => oZ (nb k)))) (h6 : ws[6]? = some (ad 6, iA K (4 * n) (fun k => oZ (bt k)))) (h7 : ws[7]? = some (ad 7, lO ad)) (h8 : ws[8]? = some (ad 8, iN K (2 * n) co)) (h9 : ws[9]? = some (ad 9, iN K n di)) (h10 : ws[10]? = some (ad 10, zA K n tr)) (hno : ws[30 + 3 * t]? = some (ad (30 + 3 * t), nO ad t pn rl)) (hpi : ws[31 + 3 * t]? = some (ad (31 + 3 * t), iN K 5 pi)) (hro : ws[32 + 3 * t]? = some (ad (32 + 3 * t), zA K (2 * n) ro)) (hn : n ≤ 64) (hNB : NB n nb bt) (hcap : ∀ k, k < 2 * n → cap k ≤ 20) (hus : ∀ k, k < 2 * n → us k ≤ 12) (hhi : ∀ k, k < 2 * n → hi k ≤ 5120) (hpn : pn ≤ 5) (hp2 : 2 ≤ pn) (hpin : ∀ k, k < pn → pi k < n) : MMl l yX1_findRoute wsX1_findRoute ({ frames := 3, cells := 0, slots := 0, locals := 69 }) D K ws [.ref (ad 7), .ref (ad (30 + 3 * t))] (fun r u => (r = (jZ ((sm (fun k => if (jn nb bt (coF cap us hi) pi n pn (pn - 1) (diS (pi 0)) (trS (pi 0)) ro).2.2 k = true then coF cap us hi k else 0) (2 * n) : Nat) : Int))) ∧ (u[8]? = some (ad 8, iN K (2 * n) (coF cap us hi))) ∧ (u[9]? = some (ad 9, iN K n ((jn nb bt (coF cap us hi) pi n pn (pn - 1) (diS (pi 0)) (trS (pi 0)) ro).1))) ∧ (u[10]? = some (ad 10, zA K n ((jn nb bt (coF cap us hi) pi n pn (pn - 1) (diS (pi 0)) (trS (pi 0)) ro).2.1))) ∧ (u[32 + 3 * t]? = some (ad (32 + 3 * t), zA K (2 * n) ((jn nb bt (coF cap us hi) pi n pn (pn - 1) (diS (pi 0)) (trS (pi 0)) ro).2.2))) ∧ (u[30 + 3 * t]? = some (ad (30 + 3 * t), nO ad t pn ((cnt (jn nb bt (coF cap us hi) pi n pn (pn - 1) (diS (pi 0)) (trS (pi 0)) ro).2.2 (2 * n) : Nat) : Int))) ∧ (Fr (fun j => j = 8 ∨ j = 9 ∨ j = 10 ∨ j = 32 + 3 * t ∨ j = 30 + 3 * t) ws u)) := by
  refine q_entMl RX1 [(0, .ref (ad 7)), (1, .ref (ad (30 + 3 * t)))] (by decide) rfl rfl (Nat.le_of_ble_eq_true rfl) rfl ?_
  intro p e s m args below meth c hc hr hlk
  have i3 : ∀ w ∈ u_ws RX3 TX3 4, w ∈ wsX1_findRoute := by decide +kernel
  have f38 := hc.1.2.2.2.2 (.fieldLink RX1 38 "GlobalRoutes$Net" "pins" "[I") (by decide +kernel)
  have f47 := hc.1.2.2.2.2 (.fieldLink RX1 47 "GlobalRoutes$Net" "pinCount" "I") (by decide +kernel)
  have f57 := hc.1.2.2.2.2 (.fieldLink RX1 57 "GlobalRoutes$Net" "route" "[Z") (by decide +kernel)
  have fr0 : Fr (fun j => j = 8 ∨ j = 9 ∨ j = 10 ∨ j = 32 + 3 * t ∨ j = 30 + 3 * t) ws ws := Fr.rfl
  refine q_aload_n hc 0 dX1_findRoute_0 rfl ?_
  refine q_callMv (As := []) (rest := []) hc (c_X1_takeCosts l D K ws ad w h n cap us hi co h1 h2 h3 h4 h7 h8 hn hcap hus hhi) (cwV 0 hc.1.2.2.2.2 gX1_findRoute_X1_takeCosts rfl rfl rfl (by decide +kernel) ⟨Nat.le_of_ble_eq_true rfl, Nat.le_of_ble_eq_true rfl⟩) 7 h7 rfl rfl rfl (by decide) dX1_findRoute_1 ⟨Nat.zero_le _, Nat.zero_le _⟩ (fun u1 hp' => ?_)
  obtain ⟨hq3, fr4⟩ := hp'
  have hq5 := (fr4.at 1 (by omega)).trans h1
  have hq6 := (fr4.at 2 (by omega)).trans h2
  have hq7 := (fr4.at 3 (by omega)).trans h3
  have hq8 := (fr4.at 4 (by omega)).trans h4
  have hq9 := (fr4.at 5 (by omega)).trans h5
  have hq10 := (fr4.at 6 (by omega)).trans h6
  have hq11 := (fr4.at 7 (by omega)).trans h7
  have hq12 := (fr4.at 9 (by omega)).trans h9
  have hq13 := (fr4.at 10 (by omega)).trans h10
  have hq14 := (fr4.at (30 + 3 * t) (by omega)).trans hno
  have hq15 := (fr4.at (31 + 3 * t) (by omega)).trans hpi
  have hq16 := (fr4.at (32 + 3 * t) (by omega)).trans hro
  refine q_aload_n hc 0 dX1_findRoute_4 rfl ?_
  refine q_aload_n hc 1 dX1_findRoute_5 rfl ?_
  refine q_get hc (30 + 3 * t) 0 i3 hq14 rfl (by decide) f38 rfl rfl dX1_findRoute_6 ?_
  refine q_iconstN hc 0 dX1_findRoute_9 rfl ?_
  refine q_ialdN (j := 0) hc (31 + 3 * t) hq15 rfl (by omega) (by omega) dX1_findRoute_10 ?_
  have hco := coF_bd (cap := cap) hus hhi
  have hpi0 := hpin 0 (by omega)
  refine q_callMv (As := [.int (iZ ((pi 0 : Nat) : Int))]) (rest := []) hc (c_X1_startTree l D K u1 ad w h n (pi 0) di tr hq5 hq11 hq12 hq13 hn hpi0) (cwV 1 hc.1.2.2.2.2 gX1_findRoute_X1_startTree rfl rfl rfl (by decide +kernel) ⟨Nat.le_of_ble_eq_true rfl, Nat.le_of_ble_eq_true rfl⟩) 7 hq11 rfl rfl rfl (by decide) dX1_findRoute_11 ⟨Nat.zero_le _, Nat.zero_le _⟩ (fun u17 hp' => ?_)
  obtain ⟨hq19, hq20, fr21⟩ := hp'
  have hq22 := (fr21.at 1 (by omega)).trans hq5
  have hq23 := (fr21.at 2 (by omega)).trans hq6
  have hq24 := (fr21.at 3 (by omega)).trans hq7
  have hq25 := (fr21.at 4 (by omega)).trans hq8
  have hq26 := (fr21.at 5 (by omega)).trans hq9
  have hq27 := (fr21.at 6 (by omega)).trans hq10
  have hq28 := (fr21.at 7 (by omega)).trans hq11
  have hq29 := (fr21.at 8 (by omega)).trans hq3
  have hq30 := (fr21.at (30 + 3 * t) (by omega)).trans hq14
  have hq31 := (fr21.at (31 + 3 * t) (by omega)).trans hq15
  have hq32 := (fr21.at (32 + 3 * t) (by omega)).trans hq16
  refine q_iconstN hc 1 dX1_findRoute_14 rfl ?_
  refine q_istore_n hc [(2, .int (iZ ((1 : Nat) : Int))), (0, .ref (ad 7)), (1, .ref (ad (30 + 3 * t)))] dX1_findRoute_15 rfl (by decide) rfl ?_
  refine V.sub [1, 2, 0] rfl ?_
  refine V.loop (α := Nat × (Nat → Nat) × (Nat → Bool) × (Nat → Bool)) (fun x => pn - x.1) (fun x u => (1 ≤ x.1) ∧ (x.1 ≤ pn) ∧ (∀ z, x.2.1 z ≤ 1000000000) ∧ (jn nb bt (coF cap us hi) pi n pn (pn - x.1) x.2.1 x.2.2.1 x.2.2.2 = jn nb bt (coF cap us hi) pi n pn (pn - 1) (diS (pi 0)) (trS (pi 0)) ro) ∧ (u[9]? = some (ad 9, iN K n x.2.1)) ∧ (u[10]? = some (ad 10, zA K n x.2.2.1)) ∧ (u[32 + 3 * t]? = some (ad (32 + 3 * t), zA K (2 * n) x.2.2.2)) ∧ (Fr (fun j => j = 9 ∨ j = 10 ∨ j = 32 + 3 * t) u17 u)) (fun x => [(0, .ref (ad 7)), (1, .ref (ad (30 + 3 * t))), (2, .int (iZ ((x.1 : Nat) : Int)))]) (1, diS (pi 0), trS (pi 0), ro) ⟨(Nat.le_refl _), (by omega), (diS_bd _), (rfl), (hq20), (hq19), (hq32), (Fr.rfl)⟩ rfl ?_
  intro x ih16 u33 hI
  obtain ⟨k, Dv, T1, R1⟩ := x
  try dsimp only at ih16 hI ⊢
  obtain ⟨hk1, hk, hD, hjn, hq34, hq35, hq36, fr37⟩ := hI
  have hq38 := (fr37.at 1 (by omega)).trans hq22
  have hq39 := (fr37.at 2 (by omega)).trans hq23
  have hq40 := (fr37.at 3 (by omega)).trans hq24
  have hq41 := (fr37.at 4 (by omega)).trans hq25
  have hq42 := (fr37.at 5 (by omega)).trans hq26
  have hq43 := (fr37.at 6 (by omega)).trans hq27
  have hq44 := (fr37.at 7 (by omega)).trans hq28
  have hq45 := (fr37.at 8 (by omega)).trans hq29
  have hq46 := (fr37.at (30 + 3 * t) (by omega)).trans hq30
  have hq47 := (fr37.at (31 + 3 * t) (by omega)).trans hq31
  refine q_iload_n hc 2 dX1_findRoute_16 rfl ?_
  refine q_aload_n hc 1 dX1_findRoute_17 rfl ?_
  refine q_get hc (30 + 3 * t) 2 i3 hq46 rfl (by decide) f47 rfl rfl dX1_findRoute_18 ?_
  refine q_icmpN_ge hc 57 dX1_findRoute_21 (by decide) (by omega) (by omega) (fun c48 => ?_) (fun c48 => ?_)
  · have hE : jn nb bt (coF cap us hi) pi n pn (pn - 1) (diS (pi 0)) (trS (pi 0)) ro = (Dv, T1, R1) := by rw [← hjn, show pn - k = 0 by omega]; rfl
    refine q_norm_iN (g := (jn nb bt (coF cap us hi) pi n pn (pn - 1) (diS (pi 0)) (trS (pi 0)) ro).1) hc 9 hq34 (fun k9 _ => by rw [hE]) (fun u49 hn' hf' => ?_)
    have hq50 : u49[9]? = some (ad 9, iN K n ((jn nb bt (coF cap us hi) pi n pn (pn - 1) (diS (pi 0)) (trS (pi 0)) ro).1)) := hn'
    have hq51 := (hf' 1 (by omega)).trans hq38
    have hq52 := (hf' 2 (by omega)).trans hq39
    have hq53 := (hf' 3 (by omega)).trans hq40
    have hq54 := (hf' 4 (by omega)).trans hq41
    have hq55 := (hf' 5 (by omega)).trans hq42
    have hq56 := (hf' 6 (by omega)).trans hq43
    have hq57 := (hf' 7 (by omega)).trans hq44
    have hq58 := (hf' 8 (by omega)).trans hq45
    have hq59 := (hf' 10 (by omega)).trans hq35
    have hq60 := (hf' (30 + 3 * t) (by omega)).trans hq46
    have hq61 := (hf' (31 + 3 * t) (by omega)).trans hq47
    have hq62 := (hf' (32 + 3 * t) (by omega)).trans hq36
    have fr63 := Fr.one hf'
    refine q_norm_zA (g := (jn nb bt (coF cap us hi) pi n pn (pn - 1) (diS (pi 0)) (trS (pi 0)) ro).2.1) hc 10 hq59 (fun k9 _ => by rw [hE]) (fun u64 hn' hf' => ?_)
    have hq65 : u64[10]? = some (ad 10, zA K n ((jn nb bt (coF cap us hi) pi n pn (pn - 1) (diS (pi 0)) (trS (pi 0)) ro).2.1)) := hn'
    have hq66 := (hf' 1 (by omega)).trans hq51
    have hq67 := (hf' 2 (by omega)).trans hq52
    have hq68 := (hf' 3 (by omega)).trans hq53
    have hq69 := (hf' 4 (by omega)).trans hq54
    have hq70 := (hf' 5 (by omega)).trans hq55
    have hq71 := (hf' 6 (by omega)).trans hq56
    have hq72 := (hf' 7 (by omega)).trans hq57
    have hq73 := (hf' 8 (by omega)).trans hq58
    have hq74 := (hf' 9 (by omega)).trans hq50
    have hq75 := (hf' (30 + 3 * t) (by omega)).trans hq60
    have hq76 := (hf' (31 + 3 * t) (by omega)).trans hq61
    have hq77 := (hf' (32 + 3 * t) (by omega)).trans hq62
    have fr78 := Fr.one hf'
    refine q_norm_zA (g := (jn nb bt (coF cap us hi) pi n pn (pn - 1) (diS (pi 0)) (trS (pi 0)) ro).2.2) hc (32 + 3 * t) hq77 (fun k9 _ => by rw [hE]) (fun u79 hn' hf' => ?_)
    have hq80 : u79[32 + 3 * t]? = some (ad (32 + 3 * t), zA K (2 * n) ((jn nb bt (coF cap us hi) pi n pn (pn - 1) (diS (pi 0)) (trS (pi 0)) ro).2.2)) := hn'
    have hq81 := (hf' 1 (by omega)).trans hq66
    have hq82 := (hf' 2 (by omega)).trans hq67
    have hq83 := (hf' 3 (by omega)).trans hq68
    have hq84 := (hf' 4 (by omega)).trans hq69
    have hq85 := (hf' 5 (by omega)).trans hq70
    have hq86 := (hf' 6 (by omega)).trans hq71
    have hq87 := (hf' 7 (by omega)).trans hq72
    have hq88 := (hf' 8 (by omega)).trans hq73
    have hq89 := (hf' 9 (by omega)).trans hq74
    have hq90 := (hf' 10 (by omega)).trans hq65
    have hq91 := (hf' (30 + 3 * t) (by omega)).trans hq75
    have hq92 := (hf' (31 + 3 * t) (by omega)).trans hq76
    have fr93 := Fr.one hf'
    refine q_aload_n hc 0 dX1_findRoute_57 rfl ?_
    refine q_aload_n hc 1 dX1_findRoute_58 rfl ?_
    refine q_callMl (As := [.ref (ad (30 + 3 * t))]) (rest := []) hc (c_X1_measure l D K u79 ad t pn rl w h n (coF cap us hi) ((jn nb bt (coF cap us hi) pi n pn (pn - 1) (diS (pi 0)) (trS (pi 0)) ro).2.2) hq81 hq87 hq88 hq91 hq80 hn hco) (cwV 1 hc.1.2.2.2.2 gX1_findRoute_X1_measure rfl rfl rfl (by decide +kernel) ⟨Nat.le_of_ble_eq_true rfl, Nat.le_of_ble_eq_true rfl⟩) 7 hq87 rfl rfl rfl (by decide) dX1_findRoute_59 ⟨Nat.zero_le _, Nat.zero_le _⟩ (fun r95 u94 hp' => ?_)
    obtain ⟨hr98, hq96, fr97⟩ := hp'
    have hq99 := (fr97.at 1 (by omega)).trans hq81
    have hq100 := (fr97.at 2 (by omega)).trans hq82
    have hq101 := (fr97.at 3 (by omega)).trans hq83
    have hq102 := (fr97.at 4 (by omega)).trans hq84
    have hq103 := (fr97.at 5 (by omega)).trans hq85
    have hq104 := (fr97.at 6 (by omega)).trans hq86
    have hq105 := (fr97.at 7 (by omega)).trans hq87
    have hq106 := (fr97.at 8 (by omega)).trans hq88
    have hq107 := (fr97.at 9 (by omega)).trans hq89
    have hq108 := (fr97.at 10 (by omega)).trans hq90
    have hq109 := (fr97.at (31 + 3 * t) (by omega)).trans hq92
    have hq110 := (fr97.at (32 + 3 * t) (by omega)).trans hq80
    subst hr98
    exact q_lretM (z := ((sm (fun k => if ((jn nb bt (coF cap us hi) pi n pn (pn - 1) (diS (pi 0)) (trS (pi 0)) ro).2.2) k = true then (coF cap us hi) k else 0) (2 * n) : Nat) : Int)) hc (⟨rfl, hq106, hq107, hq108, hq110, hq96, (((((((fr0.trans fr4 (fun _ _ => by omega)).trans fr21 (fun _ _ => by omega)).trans fr37 (fun _ _ => by omega)).trans fr63 (fun _ _ => by omega)).trans fr78 (fun _ _ => by omega)).trans fr93 (fun _ _ => by omega)).trans fr97 (fun _ _ => by omega))⟩) hr hlk dX1_findRoute_62
  · refine q_aload_n hc 0 dX1_findRoute_24 rfl ?_
    refine q_callMv (As := []) (rest := []) hc (c_X1_spreadDistances l D K u33 ad w h n Dv (coF cap us hi) _ _ hq38 hq42 hq43 hq44 hq45 hq34 hn hNB hD hco) (cwV 0 hc.1.2.2.2.2 gX1_findRoute_X1_spreadDistances rfl rfl rfl (by decide +kernel) ⟨Nat.le_of_ble_eq_true rfl, Nat.le_of_ble_eq_true rfl⟩) 7 hq44 rfl rfl rfl (by decide) dX1_findRoute_25 ⟨Nat.zero_le _, Nat.zero_le _⟩ (fun u111 hp' => ?_)
    obtain ⟨hq113, fr114⟩ := hp'
    have hq115 := (fr114.at 1 (by omega)).trans hq38
    have hq116 := (fr114.at 2 (by omega)).trans hq39
    have hq117 := (fr114.at 3 (by omega)).trans hq40
    have hq118 := (fr114.at 4 (by omega)).trans hq41
    have hq119 := (fr114.at 5 (by omega)).trans hq42
    have hq120 := (fr114.at 6 (by omega)).trans hq43
    have hq121 := (fr114.at 7 (by omega)).trans hq44
    have hq122 := (fr114.at 8 (by omega)).trans hq45
    have hq123 := (fr114.at 10 (by omega)).trans hq35
    have hq124 := (fr114.at (30 + 3 * t) (by omega)).trans hq46
    have hq125 := (fr114.at (31 + 3 * t) (by omega)).trans hq47
    have hq126 := (fr114.at (32 + 3 * t) (by omega)).trans hq36
    refine q_aload_n hc 0 dX1_findRoute_28 rfl ?_
    refine q_aload_n hc 1 dX1_findRoute_29 rfl ?_
    refine q_callPi (As := [.ref (ad (30 + 3 * t))]) (rest := []) hc (c_X1_nearestPin l D K u111 ad t n pn rl (itP nb bt (coF cap us hi) n Dv n) pi T1 hq121 hq113 hq123 hq124 hq125 hn hpn hpin (itP_bd hD n)) (cwV 1 hc.1.2.2.2.2 gX1_findRoute_X1_nearestPin rfl rfl rfl (by decide +kernel) ⟨Nat.le_of_ble_eq_true rfl, Nat.le_of_ble_eq_true rfl⟩) 7 hq121 rfl rfl rfl (by decide) dX1_findRoute_30 ⟨Nat.zero_le _, Nat.zero_le _⟩ ?_
    refine q_istore_n hc [(3, .int (iZ (oZ (nrP T1 (itP nb bt (coF cap us hi) n Dv n) pi pn)))), (0, .ref (ad 7)), (1, .ref (ad (30 + 3 * t))), (2, .int (iZ ((k : Nat) : Int)))] dX1_findRoute_33 rfl (by decide) rfl ?_
    refine q_iload_n hc 0 dX1_findRoute_34 rfl ?_
    rcases hq9 : nrP T1 (itP nb bt (coF cap us hi) n Dv n) pi pn with _ | c0
    · refine V.topi (show _ = -1 from rfl) ?_
      refine q_iconst hc dX1_findRoute_35 ?_
      refine q_icmp_ne hc 42 dX1_findRoute_36 (by decide) (by omega) (by omega) (fun c129 => ?_) (fun c129 => ?_)
      · exact absurd rfl c129
      · refine q_goto hc 57 dX1_findRoute_39 (by decide) ?_
        have hE : jn nb bt (coF cap us hi) pi n pn (pn - 1) (diS (pi 0)) (trS (pi 0)) ro = (itP nb bt (coF cap us hi) n Dv n, T1, R1) := by rw [← hjn, show pn - k = (pn - (k + 1)) + 1 by omega, jn_none hq9]
        refine q_norm_iN (g := (jn nb bt (coF cap us hi) pi n pn (pn - 1) (diS (pi 0)) (trS (pi 0)) ro).1) hc 9 hq113 (fun k9 _ => by rw [hE]) (fun u130 hn' hf' => ?_)
        have hq131 : u130[9]? = some (ad 9, iN K n ((jn nb bt (coF cap us hi) pi n pn (pn - 1) (diS (pi 0)) (trS (pi 0)) ro).1)) := hn'
        have hq132 := (hf' 1 (by omega)).trans hq115
        have hq133 := (hf' 2 (by omega)).trans hq116
        have hq134 := (hf' 3 (by omega)).trans hq117
        have hq135 := (hf' 4 (by omega)).trans hq118
        have hq136 := (hf' 5 (by omega)).trans hq119
        have hq137 := (hf' 6 (by omega)).trans hq120
        have hq138 := (hf' 7 (by omega)).trans hq121
        have hq139 := (hf' 8 (by omega)).trans hq122
        have hq140 := (hf' 10 (by omega)).trans hq123
        have hq141 := (hf' (30 + 3 * t) (by omega)).trans hq124
        have hq142 := (hf' (31 + 3 * t) (by omega)).trans hq125
        have hq143 := (hf' (32 + 3 * t) (by omega)).trans hq126
        have fr144 := Fr.one hf'
        refine q_norm_zA (g := (jn nb bt (coF cap us hi) pi n pn (pn - 1) (diS (pi 0)) (trS (pi 0)) ro).2.1) hc 10 hq140 (fun k9 _ => by rw [hE]) (fun u145 hn' hf' => ?_)
        have hq146 : u145[10]? = some (ad 10, zA K n ((jn nb bt (coF cap us hi) pi n pn (pn - 1) (diS (pi 0)) (trS (pi 0)) ro).2.1)) := hn'
        have hq147 := (hf' 1 (by omega)).trans hq132
        have hq148 := (hf' 2 (by omega)).trans hq133
        have hq149 := (hf' 3 (by omega)).trans hq134
        have hq150 := (hf' 4 (by omega)).trans hq135
        have hq151 := (hf' 5 (by omega)).trans hq136
        have hq152 := (hf' 6 (by omega)).trans hq137
        have hq153 := (hf' 7 (by omega)).trans hq138
        have hq154 := (hf' 8 (by omega)).trans hq139
        have hq155 := (hf' 9 (by omega)).trans hq131
        have hq156 := (hf' (30 + 3 * t) (by omega)).trans hq141
        have hq157 := (hf' (31 + 3 * t) (by omega)).trans hq142
        have hq158 := (hf' (32 + 3 * t) (by omega)).trans hq143
        have fr159 := Fr.one hf'
        refine q_norm_zA (g := (jn nb bt (coF cap us hi) pi n pn (pn - 1) (diS (pi 0)) (trS (pi 0)) ro).2.2) hc (32 + 3 * t) hq158 (fun k9 _ => by rw [hE]) (fun u160 hn' hf' => ?_)
        have hq161 : u160[32 + 3 * t]? = some (ad (32 + 3 * t), zA K (2 * n) ((jn nb bt (coF cap us hi) pi n pn (pn - 1) (diS (pi 0)) (trS (pi 0)) ro).2.2)) := hn'
        have hq162 := (hf' 1 (by omega)).trans hq147
        have hq163 := (hf' 2 (by omega)).trans hq148
        have hq164 := (hf' 3 (by omega)).trans hq149
        have hq165 := (hf' 4 (by omega)).trans hq150
        have hq166 := (hf' 5 (by omega)).trans hq151
        have hq167 := (hf' 6 (by omega)).trans hq152
        have hq168 := (hf' 7 (by omega)).trans hq153
        have hq169 := (hf' 8 (by omega)).trans hq154
        have hq170 := (hf' 9 (by omega)).trans hq155
        have hq171 := (hf' 10 (by omega)).trans hq146
        have hq172 := (hf' (30 + 3 * t) (by omega)).trans hq156
        have hq173 := (hf' (31 + 3 * t) (by omega)).trans hq157
        have fr174 := Fr.one hf'
        refine q_aload_n hc 1 dX1_findRoute_57 rfl ?_
        refine q_aload_n hc 2 dX1_findRoute_58 rfl ?_
        refine q_callMl (As := [.ref (ad (30 + 3 * t))]) (rest := []) hc (c_X1_measure l D K u160 ad t pn rl w h n (coF cap us hi) ((jn nb bt (coF cap us hi) pi n pn (pn - 1) (diS (pi 0)) (trS (pi 0)) ro).2.2) hq162 hq168 hq169 hq172 hq161 hn hco) (cwV 1 hc.1.2.2.2.2 gX1_findRoute_X1_measure rfl rfl rfl (by decide +kernel) ⟨Nat.le_of_ble_eq_true rfl, Nat.le_of_ble_eq_true rfl⟩) 7 hq168 rfl rfl rfl (by decide) dX1_findRoute_59 ⟨Nat.zero_le _, Nat.zero_le _⟩ (fun r176 u175 hp' => ?_)
        obtain ⟨hr179, hq177, fr178⟩ := hp'
        have hq180 := (fr178.at 1 (by omega)).trans hq162
        have hq181 := (fr178.at 2 (by omega)).trans hq163
        have hq182 := (fr178.at 3 (by omega)).trans hq164
        have hq183 := (fr178.at 4 (by omega)).trans hq165
        have hq184 := (fr178.at 5 (by omega)).trans hq166
        have hq185 := (fr178.at 6 (by omega)).trans hq167
        have hq186 := (fr178.at 7 (by omega)).trans hq168
        have hq187 := (fr178.at 8 (by omega)).trans hq169
        have hq188 := (fr178.at 9 (by omega)).trans hq170
        have hq189 := (fr178.at 10 (by omega)).trans hq171
        have hq190 := (fr178.at (31 + 3 * t) (by omega)).trans hq173
        have hq191 := (fr178.at (32 + 3 * t) (by omega)).trans hq161
        subst hr179
        exact q_lretM (z := ((sm (fun k => if ((jn nb bt (coF cap us hi) pi n pn (pn - 1) (diS (pi 0)) (trS (pi 0)) ro).2.2) k = true then (coF cap us hi) k else 0) (2 * n) : Nat) : Int)) hc (⟨rfl, hq187, hq188, hq189, hq191, hq177, ((((((((fr0.trans fr4 (fun _ _ => by omega)).trans fr21 (fun _ _ => by omega)).trans fr37 (fun _ _ => by omega)).trans fr114 (fun _ _ => by omega)).trans fr144 (fun _ _ => by omega)).trans fr159 (fun _ _ => by omega)).trans fr174 (fun _ _ => by omega)).trans fr178 (fun _ _ => by omega))⟩) hr hlk dX1_findRoute_62
    · refine V.topi (show _ = ((c0 : Nat) : Int) from rfl) ?_
      refine V.lve (show ([(3, .int (iZ (oZ ((some c0))))), (0, .ref (ad 7)), (1, .ref (ad (30 + 3 * t))), (2, .int (iZ ((k : Nat) : Int)))] : List (Nat × Value)) = [(3, .int (iZ ((c0 : Nat) : Int))), (0, .ref (ad 7)), (1, .ref (ad (30 + 3 * t))), (2, .int (iZ ((k : Nat) : Int)))] from by rw [show (oZ ((some c0)) : Int) = ((c0 : Nat) : Int) from rfl]) ?_
      have hc0 := nrP_lt hpin pn (Nat.le_refl _) hq9
      refine q_iconst hc dX1_findRoute_35 ?_
      refine q_icmp_ne hc 42 dX1_findRoute_36 (by decide) (by omega) (by omega) (fun c192 => ?_) (fun c192 => ?_)
      · refine q_aload_n hc 1 dX1_findRoute_42 rfl ?_
        refine q_iload_n hc 0 dX1_findRoute_43 rfl ?_
        refine q_aload_n hc 2 dX1_findRoute_44 rfl ?_
        refine q_get hc (30 + 3 * t) 1 i3 hq124 rfl (by decide) f57 rfl rfl dX1_findRoute_45 ?_
        refine q_callMv (As := [.int (iZ ((c0 : Nat) : Int)), .ref (ad (32 + 3 * t))]) (rest := []) hc (c_X1_joinTree l D K u111 ad c0 t w h n (itP nb bt (coF cap us hi) n Dv n) (coF cap us hi) T1 R1 _ _ hq115 hq119 hq120 hq121 hq122 hq113 hq123 hq126 hn hc0 hNB (itP_bd hD n) hco) (cwV 2 hc.1.2.2.2.2 gX1_findRoute_X1_joinTree rfl rfl rfl (by decide +kernel) ⟨Nat.le_of_ble_eq_true rfl, Nat.le_of_ble_eq_true rfl⟩) 7 hq121 rfl rfl rfl (by decide) dX1_findRoute_48 ⟨Nat.zero_le _, Nat.zero_le _⟩ (fun u193 hp' => ?_)
        obtain ⟨hq195, hq196, hq197, fr198⟩ := hp'
        have hq199 := (fr198.at 1 (by omega)).trans hq115
        have hq200 := (fr198.at 2 (by omega)).trans hq116
        have hq201 := (fr198.at 3 (by omega)).trans hq117
        have hq202 := (fr198.at 4 (by omega)).trans hq118
        have hq203 := (fr198.at 5 (by omega)).trans hq119
        have hq204 := (fr198.at 6 (by omega)).trans hq120
        have hq205 := (fr198.at 7 (by omega)).trans hq121
        have hq206 := (fr198.at 8 (by omega)).trans hq122
        have hq207 := (fr198.at (30 + 3 * t) (by omega)).trans hq124
        have hq208 := (fr198.at (31 + 3 * t) (by omega)).trans hq125
        refine q_iincN (q := 3) hc 1 [(2, .int (iZ ((k + 1 : Nat) : Int))), (3, .int (iZ ((c0 : Nat) : Int))), (0, .ref (ad 7)), (1, .ref (ad (30 + 3 * t)))] dX1_findRoute_51 rfl rfl (by decide) rfl ?_
        refine q_goto hc 16 dX1_findRoute_54 (by decide) ?_
        refine V.sub [2, 3, 0] rfl ?_
        exact ih16 (k + 1, fun k => if (wk nb bt (itP nb bt (coF cap us hi) n Dv n) (coF cap us hi) n T1 R1 c0).1 k = true then 0 else (itP nb bt (coF cap us hi) n Dv n) k, (wk nb bt (itP nb bt (coF cap us hi) n Dv n) (coF cap us hi) n T1 R1 c0).1, (wk nb bt (itP nb bt (coF cap us hi) n Dv n) (coF cap us hi) n T1 R1 c0).2.1) _ (by omega) ⟨(by omega), (by omega), (fun k9 => by have h9 := itP_bd (nb := nb) (bt := bt) (co := coF cap us hi) (n := n) hD n k9; show (if _ then 0 else _) ≤ _; split <;> omega), (by rw [← hjn, show pn - k = (pn - (k + 1)) + 1 by omega, jn_some hq9]), (hq197), (hq195), (hq196), (((fr37.trans fr114 (fun _ _ => by omega)).trans fr198 (fun _ _ => by omega)))⟩
      · exact absurd c192 (by omega)
