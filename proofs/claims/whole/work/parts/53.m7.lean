
set_option maxRecDepth 100000 in
set_option maxHeartbeats 4000000 in
theorem c_X5_leadNet (l : Launch) (D : va_G) (K : Nat → ClassId) (ws : va_W) (ad : Nat → Nat) (w h n th nc rc : Nat) (t c0 : Nat) (cap us : Nat → Nat) (hi : Nat → Nat) (pn : Nat → Nat) (rl : Nat → Int) (pi : Nat → Nat → Nat) (ro : Nat → Nat → Bool) (tr rs : Nat → Bool) (di cm : Nat → Nat) (h66 : ws[66]? = some (ad 66, mO ad w h th nc rc)) (m67 : ws[67]? = some (ad 67, iN K 128 (mA n c0 cap))) (m68 : ws[68]? = some (ad 68, iN K 128 (mA n 0 hi))) (m69 : ws[69]? = some (ad 69, iN K 12 pn)) (m70 : ws[70]? = some (ad 70, iN K 60 (mP pi))) (m71 : ws[71]? = some (ad 71, zA K 12 (mHr rl))) (m72 : ws[72]? = some (ad 72, zA K 1536 (mRo n ro))) (m73 : ws[73]? = some (ad 73, zA K 64 tr)) (m74 : ws[74]? = some (ad 74, jN K 64 di)) (m75 : ws[75]? = some (ad 75, jN K 128 cm)) (m76 : ws[76]? = some (ad 76, zA K 128 rs)) (hW : WH w h n) (hnc : nc ≤ 12) (ht : t < nc) (hUC : UC n nc us ro) (hc0 : c0 ≤ 20) (hcap : ∀ k, k < 2 * n → cap k ≤ 20) (hus : ∀ k, k < 2 * n → us k ≤ 12) (hhi : ∀ k, k < 2 * n → hi k ≤ 5120) (hpn : pn t ≤ 5) (hp2 : 2 ≤ pn t) (hpin : ∀ k, k < pn t → pi t k < n) : MMl l yX5_leadNet wsX5_leadNet ({ frames := 4, cells := 0, slots := 0, locals := 102 }) D K ws [.ref (ad 66), .int (iZ ((t : Nat) : Int))] (fun r u => ∃ (tv : Nat → Bool) (dv : Nat → Nat) (cv : Nat → Nat) (rv : Nat → Bool), (r = (jZ ((sR n (coF cap (sbU us (ro t)) hi) (rtN (nbW w h) (btW w h) n cap hi (pn t) (pi t) us (ro t)) : Nat) : Int))) ∧ (u[72]? = some (ad 72, zA K 1536 (mRo n (va_up ro t (rtN (nbW w h) (btW w h) n cap hi (pn t) (pi t) us (ro t)))))) ∧ (u[71]? = some (ad 71, zA K 12 (mHr (va_up rl t ((cnt (rtN (nbW w h) (btW w h) n cap hi (pn t) (pi t) us (ro t)) (2 * n) : Nat) : Int))))) ∧ (u[73]? = some (ad 73, zA K 64 tv)) ∧ (u[74]? = some (ad 74, jN K 64 dv)) ∧ (u[75]? = some (ad 75, jN K 128 cv)) ∧ (u[76]? = some (ad 76, zA K 128 rv)) ∧ (Fr (fun j => j = 72 ∨ j = 71 ∨ j = 73 ∨ j = 74 ∨ j = 75 ∨ j = 76) ws u)) := by
  refine q_entMl RX5 [(0, .ref (ad 66)), (1, .int (iZ ((t : Nat) : Int)))] (by decide) rfl rfl (Nat.le_of_ble_eq_true rfl) rfl ?_
  intro p e s m args below meth c hc hr hlk
  have i5 : ∀ w ∈ u_ws RX5 TX5 16, w ∈ wsX5_leadNet := by decide +kernel
  have f29 := hc.1.2.2.2.2 (.fieldLink RX5 29 "GlobalRoutesModel" "inTree" "[Z") (by decide +kernel)
  have f19 := hc.1.2.2.2.2 (.fieldLink RX5 19 "GlobalRoutesModel" "pinCells" "[I") (by decide +kernel)
  have f22 := hc.1.2.2.2.2 (.fieldLink RX5 22 "GlobalRoutesModel" "hasRoute" "[Z") (by decide +kernel)
  have f26 := hc.1.2.2.2.2 (.fieldLink RX5 26 "GlobalRoutesModel" "routes" "[Z") (by decide +kernel)
  have f39 := hc.1.2.2.2.2 (.fieldLink RX5 39 "GlobalRoutesModel" "reserved" "[Z") (by decide +kernel)
  have f16 := hc.1.2.2.2.2 (.fieldLink RX5 16 "GlobalRoutesModel" "pins" "[I") (by decide +kernel)
  have f32 := hc.1.2.2.2.2 (.fieldLink RX5 32 "GlobalRoutesModel" "distances" "[J") (by decide +kernel)
  have f36 := hc.1.2.2.2.2 (.fieldLink RX5 36 "GlobalRoutesModel" "costs" "[J") (by decide +kernel)
  have fr0 : Fr (fun j => j = 72 ∨ j = 71 ∨ j = 73 ∨ j = 74 ∨ j = 75 ∨ j = 76) ws ws := Fr.rfl
  have hn := hW.le; have hw2 := hW.1; have hpi0 := hpin 0 (by omega); have hUC1 := hUC.drop ht; have hus1 : ∀ k, k < 2 * n → sbU us (ro t) k ≤ 12 := fun k hk => Nat.le_trans (Nat.sub_le _ _) (hus k hk); have hC1 := coF_C1 (cap := cap) hus1 hhi
  refine q_aload_n hc 0 dX5_leadNet_0 rfl ?_
  refine q_iload_n hc 1 dX5_leadNet_1 rfl ?_
  refine q_callMi (As := [.int (iZ ((t : Nat) : Int))]) (rest := []) hc (c_X5_forgetRoute l D K ws ad w h n th nc rc t ro rl h66 m71 m72 (by omega) hn) (cwV 1 hc.1.2.2.2.2 gX5_leadNet_X5_forgetRoute rfl rfl rfl (by decide +kernel) ⟨Nat.le_of_ble_eq_true rfl, Nat.le_of_ble_eq_true rfl⟩) 66 h66 rfl rfl rfl (by decide) dX5_leadNet_2 ⟨Nat.zero_le _, Nat.zero_le _⟩ (fun r2 u1 hp' => ?_)
  obtain ⟨hr6, hq3, hq4, fr5⟩ := hp'
  have hq7 := (fr5.at 66 (by omega)).trans h66
  have hq8 := (fr5.at 67 (by omega)).trans m67
  have hq9 := (fr5.at 68 (by omega)).trans m68
  have hq10 := (fr5.at 69 (by omega)).trans m69
  have hq11 := (fr5.at 70 (by omega)).trans m70
  have hq12 := (fr5.at 73 (by omega)).trans m73
  have hq13 := (fr5.at 74 (by omega)).trans m74
  have hq14 := (fr5.at 75 (by omega)).trans m75
  have hq15 := (fr5.at 76 (by omega)).trans m76
  subst hr6
  refine q_pop hc dX5_leadNet_5 rfl ?_
  refine q_iconstN hc 0 dX5_leadNet_6 rfl ?_
  refine q_istore_n hc [(2, .int (iZ ((0 : Nat) : Int))), (0, .ref (ad 66)), (1, .int (iZ ((t : Nat) : Int)))] dX5_leadNet_7 rfl (by decide) rfl ?_
  refine V.sub [1, 2, 0] rfl ?_
  refine V.loop (α := Nat × (Nat → Bool)) (fun x => 64 - x.1) (fun x u => (x.1 ≤ 64) ∧ (∀ k, x.2 k = if k < x.1 then false else tr k) ∧ (u[73]? = some (ad 73, zA K 64 x.2)) ∧ (Fr (fun j => j = 73) u1 u)) (fun x => [(0, .ref (ad 66)), (1, .int (iZ ((t : Nat) : Int))), (2, .int (iZ ((x.1 : Nat) : Int)))]) (0, tr) ⟨(Nat.zero_le _), (fun k => by simp), (hq12), (Fr.rfl)⟩ rfl ?_
  intro x ih8 u16 hI
  obtain ⟨i0, f0⟩ := x
  try dsimp only at ih8 hI ⊢
  obtain ⟨hi0, hT, hq17, fr18⟩ := hI
  have hq19 := (fr18.at 66 (by omega)).trans hq7
  have hq20 := (fr18.at 67 (by omega)).trans hq8
  have hq21 := (fr18.at 68 (by omega)).trans hq9
  have hq22 := (fr18.at 69 (by omega)).trans hq10
  have hq23 := (fr18.at 70 (by omega)).trans hq11
  have hq24 := (fr18.at 71 (by omega)).trans hq4
  have hq25 := (fr18.at 72 (by omega)).trans hq3
  have hq26 := (fr18.at 74 (by omega)).trans hq13
  have hq27 := (fr18.at 75 (by omega)).trans hq14
  have hq28 := (fr18.at 76 (by omega)).trans hq15
  refine q_iload_n hc 2 dX5_leadNet_8 rfl ?_
  refine q_bipushN hc 64 dX5_leadNet_9 (by decide +kernel) ?_
  refine q_icmpN_ge hc 27 dX5_leadNet_11 (by decide) (by omega) (by omega) (fun c29 => ?_) (fun c29 => ?_)
  · refine q_iconstN hc 0 dX5_leadNet_27 rfl ?_
    refine q_istore_n hc [(2, .int (iZ ((0 : Nat) : Int))), (0, .ref (ad 66)), (1, .int (iZ ((t : Nat) : Int)))] dX5_leadNet_28 rfl (by decide) rfl ?_
    refine V.sub [1, 2, 0] rfl ?_
    refine V.loop (α := Nat × (Nat → Bool) × (Nat → Nat)) (fun x => 128 - x.1) (fun x u => (x.1 ≤ 128) ∧ (∀ k, x.2.1 k = if k < x.1 then false else rs k) ∧ (∀ k, x.2.2 k = if k < x.1 then cFm n c0 cap (sbU us (ro t)) hi k else cm k) ∧ (u[76]? = some (ad 76, zA K 128 x.2.1)) ∧ (u[75]? = some (ad 75, jN K 128 x.2.2)) ∧ (Fr (fun j => j = 76 ∨ j = 75) u16 u)) (fun x => [(0, .ref (ad 66)), (1, .int (iZ ((t : Nat) : Int))), (2, .int (iZ ((x.1 : Nat) : Int)))]) (0, rs, cm) ⟨(Nat.zero_le _), (fun k => by simp), (fun k => by simp), (hq28), (hq27), (Fr.rfl)⟩ rfl ?_
    intro x ih29 u30 hI
    obtain ⟨i, f, g2⟩ := x
    try dsimp only at ih29 hI ⊢
    obtain ⟨hi2, hf, hg, hq31, hq32, fr33⟩ := hI
    have hq34 := (fr33.at 66 (by omega)).trans hq19
    have hq35 := (fr33.at 67 (by omega)).trans hq20
    have hq36 := (fr33.at 68 (by omega)).trans hq21
    have hq37 := (fr33.at 69 (by omega)).trans hq22
    have hq38 := (fr33.at 70 (by omega)).trans hq23
    have hq39 := (fr33.at 71 (by omega)).trans hq24
    have hq40 := (fr33.at 72 (by omega)).trans hq25
    have hq41 := (fr33.at 73 (by omega)).trans hq17
    have hq42 := (fr33.at 74 (by omega)).trans hq26
    refine q_iload_n hc 2 dX5_leadNet_29 rfl ?_
    refine q_sipushN hc 128 dX5_leadNet_30 (by decide +kernel) ?_
    refine q_icmpN_ge hc 60 dX5_leadNet_33 (by decide) (by omega) (by omega) (fun c43 => ?_) (fun c43 => ?_)
    · obtain rfl : i = 128 := by omega
      refine q_norm_jN (g := cFm n c0 cap (sbU us (ro t)) hi) hc 75 hq32 (fun k hk => by rw [hg k, if_pos hk]) (fun u44 hn' hf' => ?_)
      have hq45 : u44[75]? = some (ad 75, jN K 128 (cFm n c0 cap (sbU us (ro t)) hi)) := hn'
      have hq46 := (hf' 66 (by omega)).trans hq34
      have hq47 := (hf' 67 (by omega)).trans hq35
      have hq48 := (hf' 68 (by omega)).trans hq36
      have hq49 := (hf' 69 (by omega)).trans hq37
      have hq50 := (hf' 70 (by omega)).trans hq38
      have hq51 := (hf' 71 (by omega)).trans hq39
      have hq52 := (hf' 72 (by omega)).trans hq40
      have hq53 := (hf' 73 (by omega)).trans hq41
      have hq54 := (hf' 74 (by omega)).trans hq42
      have hq55 := (hf' 76 (by omega)).trans hq31
      have fr56 := Fr.one hf'
      refine q_norm_zA (g := mR n (fun _ => false)) hc 76 hq55 (fun k hk => by rw [hf k, if_pos hk]; unfold mR; rw [Bool.and_false]) (fun u57 hn' hf' => ?_)
      have hq58 : u57[76]? = some (ad 76, zA K 128 (mR n (fun _ => false))) := hn'
      have hq59 := (hf' 66 (by omega)).trans hq46
      have hq60 := (hf' 67 (by omega)).trans hq47
      have hq61 := (hf' 68 (by omega)).trans hq48
      have hq62 := (hf' 69 (by omega)).trans hq49
      have hq63 := (hf' 70 (by omega)).trans hq50
      have hq64 := (hf' 71 (by omega)).trans hq51
      have hq65 := (hf' 72 (by omega)).trans hq52
      have hq66 := (hf' 73 (by omega)).trans hq53
      have hq67 := (hf' 74 (by omega)).trans hq54
      have hq68 := (hf' 75 (by omega)).trans hq45
      have fr69 := Fr.one hf'
      refine q_aload_n hc 0 dX5_leadNet_60 rfl ?_
      refine q_get hc 66 11 i5 hq59 rfl (by decide) f29 rfl rfl dX5_leadNet_61 ?_
      refine q_aload_n hc 0 dX5_leadNet_64 rfl ?_
      refine q_get hc 66 7 i5 hq59 rfl (by decide) f19 rfl rfl dX5_leadNet_65 ?_
      refine q_iconstN hc 5 dX5_leadNet_68 rfl ?_
      refine q_iload_n hc 1 dX5_leadNet_69 rfl ?_
      refine q_imulN hc dX5_leadNet_70 ?_
      refine q_ialdN (j := 5 * t) hc 70 hq63 rfl (by omega) (by omega) dX5_leadNet_71 ?_
      refine V.topi (show _ = ((pi t 0 : Nat) : Int) from congrArg (fun a : Nat => (a : Int)) (mP_at (b := 0) (by omega))) ?_
      refine q_iconstN hc 1 dX5_leadNet_72 rfl ?_
      refine q_zast (j := pi t 0) (x := true) hc 73 hq66 rfl (by omega) (by omega) dX5_leadNet_73 (fun u70 hn' hf' => ?_)
      have hq71 : u70[73]? = some (ad 73, zA K 64 (va_up f0 (pi t 0) true)) := hn'
      have hq72 := (hf' 66 (by omega)).trans hq59
      have hq73 := (hf' 67 (by omega)).trans hq60
      have hq74 := (hf' 68 (by omega)).trans hq61
      have hq75 := (hf' 69 (by omega)).trans hq62
      have hq76 := (hf' 70 (by omega)).trans hq63
      have hq77 := (hf' 71 (by omega)).trans hq64
      have hq78 := (hf' 72 (by omega)).trans hq65
      have hq79 := (hf' 74 (by omega)).trans hq67
      have hq80 := (hf' 75 (by omega)).trans hq68
      have hq81 := (hf' 76 (by omega)).trans hq58
      have fr82 := Fr.one hf'
      refine q_norm_zA (g := trS (pi t 0)) hc 73 hq71 (fun k hk => by unfold va_up trS; rw [hT k, if_pos (show k < i0 by omega)]; by_cases h9 : k = pi t 0 <;> simp [h9]) (fun u83 hn' hf' => ?_)
      have hq84 : u83[73]? = some (ad 73, zA K 64 (trS (pi t 0))) := hn'
      have hq85 := (hf' 66 (by omega)).trans hq72
      have hq86 := (hf' 67 (by omega)).trans hq73
      have hq87 := (hf' 68 (by omega)).trans hq74
      have hq88 := (hf' 69 (by omega)).trans hq75
      have hq89 := (hf' 70 (by omega)).trans hq76
      have hq90 := (hf' 71 (by omega)).trans hq77
      have hq91 := (hf' 72 (by omega)).trans hq78
      have hq92 := (hf' 74 (by omega)).trans hq79
      have hq93 := (hf' 75 (by omega)).trans hq80
      have hq94 := (hf' 76 (by omega)).trans hq81
      have fr95 := Fr.one hf'
      refine q_lconst (z := 0) hc dX5_leadNet_74 (by decide +kernel) ?_
      refine q_lstore_n hc [(2, .long (jZ 0)), (0, .ref (ad 66)), (1, .int (iZ ((t : Nat) : Int)))] dX5_leadNet_75 rfl (by decide) rfl ?_
      refine q_iconstN hc 0 dX5_leadNet_76 rfl ?_
      refine q_istore hc [(4, .int (iZ ((0 : Nat) : Int))), (2, .long (jZ 0)), (0, .ref (ad 66)), (1, .int (iZ ((t : Nat) : Int)))] dX5_leadNet_77 (by decide) rfl ?_
      refine V.sub [2, 3, 1, 0] rfl ?_
      refine V.loop (α := Nat × (Option Nat) × (Nat → Bool) × (Nat → Bool) × (Nat → Nat) × (Nat → Nat) × Nat) (fun x => bm x.2.1 x.1) (fun x u => (x.2.2.1 (pi t 0) = true) ∧ (∀ k, n ≤ k → x.2.2.1 k = false) ∧ (Z0 n x.2.2.1 x.2.2.2.2.2.1) ∧ (Uw (nbW w h) (btW w h) n (coF cap (sbU us (ro t)) hi) x.2.2.1 x.2.2.2.2.2.1) ∧ (∀ k, n ≤ k → x.2.2.2.2.2.1 k = 1000000000) ∧ (∀ k, x.2.2.2.2.2.1 k ≤ 1000000000) ∧ (CL (nbW w h) (btW w h) n x.2.2.1 x.2.2.2.1) ∧ (x.2.2.2.2.2.2 = sR n (coF cap (sbU us (ro t)) hi) x.2.2.2.1) ∧ ((jn (nbW w h) (btW w h) (coF cap (sbU us (ro t)) hi) (pi t) n (pn t) x.1 x.2.2.2.2.2.1 x.2.2.1 x.2.2.2.1).2.2 = rtN (nbW w h) (btW w h) n cap hi (pn t) (pi t) us (ro t)) ∧ (cnt (fun k => !x.2.2.1 (pi t k)) (pn t) ≤ x.1) ∧ (x.2.1 = none → x.2.2.2.1 = rtN (nbW w h) (btW w h) n cap hi (pn t) (pi t) us (ro t)) ∧ (-1 ≤ oZ x.2.1 ∧ oZ x.2.1 < 64) ∧ (u[73]? = some (ad 73, zA K 64 x.2.2.1)) ∧ (u[74]? = some (ad 74, jN K 64 x.2.2.2.2.1)) ∧ (u[76]? = some (ad 76, zA K 128 (mR n x.2.2.2.1))) ∧ (Fr (fun j => j = 73 ∨ j = 74 ∨ j = 76) u83 u)) (fun x => [(0, .ref (ad 66)), (1, .int (iZ ((t : Nat) : Int))), (2, .long (jZ ((x.2.2.2.2.2.2 : Nat) : Int))), (4, .int (iZ (oZ x.2.1)))]) (pn t - 1, some 0, trS (pi t 0), fun _ => false, di, diS (pi t 0), 0) ⟨(trS_self _), (fun k hk => decide_eq_false (by omega)), (diS_Z0), (diS_Uw), (fun k hk => if_neg (by omega)), (diS_bd _), (fun _ _ _ _ _ _ => rfl), ((sR_0 _ _).symm), (rfl), (pin_0 (by omega)), (fun h9 => by cases h9), (⟨show (-1 : Int) ≤ 0 by decide, show (0 : Int) < 64 by decide⟩), (hq84), (hq92), (hq94), (Fr.rfl)⟩ rfl ?_
      intro x ih79 u96 hI
      obtain ⟨fu, bo, T1, R1, D1, di1, sa⟩ := x
      try dsimp only at ih79 hI ⊢
      obtain ⟨hT0, hTo, hZ, hU, hdo, hdb, hCL, hsa, hj, hf, hbo, hbr, hq97, hq98, hq99, fr100⟩ := hI
      have hq101 := (fr100.at 66 (by omega)).trans hq85
      have hq102 := (fr100.at 67 (by omega)).trans hq86
      have hq103 := (fr100.at 68 (by omega)).trans hq87
      have hq104 := (fr100.at 69 (by omega)).trans hq88
      have hq105 := (fr100.at 70 (by omega)).trans hq89
      have hq106 := (fr100.at 71 (by omega)).trans hq90
      have hq107 := (fr100.at 72 (by omega)).trans hq91
      have hq108 := (fr100.at 75 (by omega)).trans hq93
      refine q_iload hc 3 dX5_leadNet_79 rfl ?_
      refine q_iconst hc dX5_leadNet_81 ?_
      refine q_icmp_eq hc 182 dX5_leadNet_82 (by decide) (by omega) (by omega) (fun c109 => ?_) (fun c109 => ?_)
      · obtain rfl := oZ_none c109
        have hR9 := hbo rfl; subst hR9
        refine q_iconstN hc 0 dX5_leadNet_182 rfl ?_
        refine q_istore hc [(5, .int (iZ ((0 : Nat) : Int))), (0, .ref (ad 66)), (1, .int (iZ ((t : Nat) : Int))), (2, .long (jZ ((sa : Nat) : Int))), (4, .int (iZ (oZ none)))] dX5_leadNet_183 (by decide) rfl ?_
        refine V.sub [1, 2, 3, 0] rfl ?_
        refine V.loop (α := Nat × (Nat → Bool)) (fun x => 128 - x.1) (fun x u => (x.1 ≤ 128) ∧ (∀ k, x.2 k = if 128 * t ≤ k ∧ k < 128 * t + x.1 then mR n (rtN (nbW w h) (btW w h) n cap hi (pn t) (pi t) us (ro t)) (k - 128 * t) else mRo n (va_up ro t (fun _ => false)) k) ∧ (u[72]? = some (ad 72, zA K 1536 x.2)) ∧ (Fr (fun j => j = 72) u96 u)) (fun x => [(0, .ref (ad 66)), (1, .int (iZ ((t : Nat) : Int))), (2, .long (jZ ((sa : Nat) : Int))), (5, .int (iZ ((x.1 : Nat) : Int)))]) (0, mRo n (va_up ro t (fun _ => false))) ⟨(Nat.zero_le _), (fun k => by rw [if_neg (by omega)]), (hq107), (Fr.rfl)⟩ rfl ?_
        intro x ih185 u110 hI
        obtain ⟨i, f⟩ := x
        try dsimp only at ih185 hI ⊢
        obtain ⟨hi3, hf3, hq111, fr112⟩ := hI
        have hq113 := (fr112.at 66 (by omega)).trans hq101
        have hq114 := (fr112.at 67 (by omega)).trans hq102
        have hq115 := (fr112.at 68 (by omega)).trans hq103
        have hq116 := (fr112.at 69 (by omega)).trans hq104
        have hq117 := (fr112.at 70 (by omega)).trans hq105
        have hq118 := (fr112.at 71 (by omega)).trans hq106
        have hq119 := (fr112.at 73 (by omega)).trans hq97
        have hq120 := (fr112.at 74 (by omega)).trans hq98
        have hq121 := (fr112.at 75 (by omega)).trans hq108
        have hq122 := (fr112.at 76 (by omega)).trans hq99
        refine q_iload hc 3 dX5_leadNet_185 rfl ?_
        refine q_sipushN hc 128 dX5_leadNet_187 (by decide +kernel) ?_
        refine q_icmpN_ge hc 219 dX5_leadNet_190 (by decide) (by omega) (by omega) (fun c123 => ?_) (fun c123 => ?_)
        · obtain rfl : i = 128 := by omega
          refine q_norm_zA (g := mRo n (va_up ro t (rtN (nbW w h) (btW w h) n cap hi (pn t) (pi t) us (ro t)))) hc 72 hq111 (fun k _ => cp_end hf3 k) (fun u124 hn' hf' => ?_)
          have hq125 : u124[72]? = some (ad 72, zA K 1536 (mRo n (va_up ro t (rtN (nbW w h) (btW w h) n cap hi (pn t) (pi t) us (ro t))))) := hn'
          have hq126 := (hf' 66 (by omega)).trans hq113
          have hq127 := (hf' 67 (by omega)).trans hq114
          have hq128 := (hf' 68 (by omega)).trans hq115
          have hq129 := (hf' 69 (by omega)).trans hq116
          have hq130 := (hf' 70 (by omega)).trans hq117
          have hq131 := (hf' 71 (by omega)).trans hq118
          have hq132 := (hf' 73 (by omega)).trans hq119
          have hq133 := (hf' 74 (by omega)).trans hq120
          have hq134 := (hf' 75 (by omega)).trans hq121
          have hq135 := (hf' 76 (by omega)).trans hq122
          have fr136 := Fr.one hf'
          refine q_aload_n hc 0 dX5_leadNet_219 rfl ?_
          refine q_get hc 66 8 i5 hq126 rfl (by decide) f22 rfl rfl dX5_leadNet_220 ?_
          refine q_iload_n hc 1 dX5_leadNet_223 rfl ?_
          refine q_iconstN hc 1 dX5_leadNet_224 rfl ?_
          refine q_zast (j := t) (x := true) hc 71 hq131 rfl (by omega) (by omega) dX5_leadNet_225 (fun u137 hn' hf' => ?_)
          have hq138 : u137[71]? = some (ad 71, zA K 12 (va_up (mHr (va_up rl t (-1))) t true)) := hn'
          have hq139 := (hf' 66 (by omega)).trans hq126
          have hq140 := (hf' 67 (by omega)).trans hq127
          have hq141 := (hf' 68 (by omega)).trans hq128
          have hq142 := (hf' 69 (by omega)).trans hq129
          have hq143 := (hf' 70 (by omega)).trans hq130
          have hq144 := (hf' 72 (by omega)).trans hq125
          have hq145 := (hf' 73 (by omega)).trans hq132
          have hq146 := (hf' 74 (by omega)).trans hq133
          have hq147 := (hf' 75 (by omega)).trans hq134
          have hq148 := (hf' 76 (by omega)).trans hq135
          have fr149 := Fr.one hf'
          refine q_norm_zA (g := mHr (va_up rl t ((cnt (rtN (nbW w h) (btW w h) n cap hi (pn t) (pi t) us (ro t)) (2 * n) : Nat) : Int))) hc 71 hq138 (fun k _ => mHr_end) (fun u150 hn' hf' => ?_)
          have hq151 : u150[71]? = some (ad 71, zA K 12 (mHr (va_up rl t ((cnt (rtN (nbW w h) (btW w h) n cap hi (pn t) (pi t) us (ro t)) (2 * n) : Nat) : Int)))) := hn'
          have hq152 := (hf' 66 (by omega)).trans hq139
          have hq153 := (hf' 67 (by omega)).trans hq140
          have hq154 := (hf' 68 (by omega)).trans hq141
          have hq155 := (hf' 69 (by omega)).trans hq142
          have hq156 := (hf' 70 (by omega)).trans hq143
          have hq157 := (hf' 72 (by omega)).trans hq144
          have hq158 := (hf' 73 (by omega)).trans hq145
          have hq159 := (hf' 74 (by omega)).trans hq146
          have hq160 := (hf' 75 (by omega)).trans hq147
          have hq161 := (hf' 76 (by omega)).trans hq148
          have fr162 := Fr.one hf'
          refine q_lload_n hc 2 dX5_leadNet_226 rfl ?_
          exact q_lretM (z := ((sa : Nat) : Int)) hc (⟨_, _, _, _, congrArg (fun a : Nat => jZ (a : Int)) hsa, hq157, hq151, hq158, hq159, hq160, hq161, ((((((((((((fr0.trans fr5 (fun _ _ => by omega)).trans fr18 (fun _ _ => by omega)).trans fr33 (fun _ _ => by omega)).trans fr56 (fun _ _ => by omega)).trans fr69 (fun _ _ => by omega)).trans fr82 (fun _ _ => by omega)).trans fr95 (fun _ _ => by omega)).trans fr100 (fun _ _ => by omega)).trans fr112 (fun _ _ => by omega)).trans fr136 (fun _ _ => by omega)).trans fr149 (fun _ _ => by omega)).trans fr162 (fun _ _ => by omega))⟩) hr hlk dX5_leadNet_227
        · refine q_aload_n hc 0 dX5_leadNet_193 rfl ?_
          refine q_get hc 66 9 i5 hq113 rfl (by decide) f26 rfl rfl dX5_leadNet_194 ?_
          refine q_sipushN hc 128 dX5_leadNet_197 (by decide +kernel) ?_
          refine q_iload_n hc 1 dX5_leadNet_200 rfl ?_
          refine q_imulN hc dX5_leadNet_201 ?_
          refine q_iload hc 3 dX5_leadNet_202 rfl ?_
          refine q_iaddN hc dX5_leadNet_204 ?_
          refine q_aload_n hc 0 dX5_leadNet_205 rfl ?_
          refine q_get hc 66 14 i5 hq113 rfl (by decide) f39 rfl rfl dX5_leadNet_206 ?_
          refine q_iload hc 3 dX5_leadNet_209 rfl ?_
          refine q_zald (j := i) hc 76 hq122 rfl (by omega) (by omega) dX5_leadNet_211 ?_
          refine q_zast (j := 128 * t + i) (x := (mR n (rtN (nbW w h) (btW w h) n cap hi (pn t) (pi t) us (ro t))) i) hc 72 hq111 rfl (by omega) (by omega) dX5_leadNet_212 (fun u163 hn' hf' => ?_)
          have hq164 : u163[72]? = some (ad 72, zA K 1536 (va_up f (128 * t + i) ((mR n (rtN (nbW w h) (btW w h) n cap hi (pn t) (pi t) us (ro t))) i))) := hn'
          have hq165 := (hf' 66 (by omega)).trans hq113
          have hq166 := (hf' 67 (by omega)).trans hq114
          have hq167 := (hf' 68 (by omega)).trans hq115
          have hq168 := (hf' 69 (by omega)).trans hq116
          have hq169 := (hf' 70 (by omega)).trans hq117
          have hq170 := (hf' 71 (by omega)).trans hq118
          have hq171 := (hf' 73 (by omega)).trans hq119
          have hq172 := (hf' 74 (by omega)).trans hq120
          have hq173 := (hf' 75 (by omega)).trans hq121
          have hq174 := (hf' 76 (by omega)).trans hq122
          have fr175 := Fr.one hf'
          refine q_iincN (q := 3) hc 1 [(5, .int (iZ ((i + 1 : Nat) : Int))), (0, .ref (ad 66)), (1, .int (iZ ((t : Nat) : Int))), (2, .long (jZ ((sa : Nat) : Int)))] dX5_leadNet_213 rfl rfl (by decide) rfl ?_
          refine q_goto hc 185 dX5_leadNet_216 (by decide) ?_
          refine V.sub [1, 2, 3, 0] rfl ?_
          exact ih185 (i + 1, va_up f (128 * t + i) ((mR n (rtN (nbW w h) (btW w h) n cap hi (pn t) (pi t) us (ro t))) i)) _ (by omega) ⟨(by omega), (cp_up (by omega) hf3), (hq164), ((fr112.trans fr175 (fun _ _ => by omega)))⟩
      · obtain ⟨x9, rfl⟩ := oZ_some c109
        have hDI := itP_DS (NB_W hW) (Cn_W hW) hC1 hpi0 hT0 hZ hU
        refine q_aload_n hc 0 dX5_leadNet_85 rfl ?_
        refine q_callMv (As := []) (rest := []) hc (c_X5_findDistances l D K u96 ad w h _ th nc rc (pi t 0) T1 D1 (cFm n c0 cap (sbU us (ro t)) hi) (coF cap (sbU us (ro t)) hi) hq101 hq97 hq98 hq108 hW hC1 (fun b hb h9 => cFm_co h9) hpi0 hT0 hTo) (cwV 0 hc.1.2.2.2.2 gX5_leadNet_X5_findDistances rfl rfl rfl (by decide +kernel) ⟨Nat.le_of_ble_eq_true rfl, Nat.le_of_ble_eq_true rfl⟩) 66 hq101 rfl rfl rfl (by decide) dX5_leadNet_86 ⟨Nat.zero_le _, Nat.zero_le _⟩ (fun u176 hp' => ?_)
        obtain ⟨x178, hx179, hx180, hx181, hq182, fr183⟩ := hp'
        have hq184 := (fr183.at 66 (by omega)).trans hq101
        have hq185 := (fr183.at 67 (by omega)).trans hq102
        have hq186 := (fr183.at 68 (by omega)).trans hq103
        have hq187 := (fr183.at 69 (by omega)).trans hq104
        have hq188 := (fr183.at 70 (by omega)).trans hq105
        have hq189 := (fr183.at 71 (by omega)).trans hq106
        have hq190 := (fr183.at 72 (by omega)).trans hq107
        have hq191 := (fr183.at 73 (by omega)).trans hq97
        have hq192 := (fr183.at 75 (by omega)).trans hq108
        have hq193 := (fr183.at 76 (by omega)).trans hq99
        refine q_norm_jN (g := itP (nbW w h) (btW w h) (coF cap (sbU us (ro t)) hi) n di1 n) hc 74 hq182 (DS_itP hW hC1 hx179 hDI hx180 hdo) (fun u194 hn' hf' => ?_)
        have hq195 : u194[74]? = some (ad 74, jN K 64 (itP (nbW w h) (btW w h) (coF cap (sbU us (ro t)) hi) n di1 n)) := hn'
        have hq196 := (hf' 66 (by omega)).trans hq184
        have hq197 := (hf' 67 (by omega)).trans hq185
        have hq198 := (hf' 68 (by omega)).trans hq186
        have hq199 := (hf' 69 (by omega)).trans hq187
        have hq200 := (hf' 70 (by omega)).trans hq188
        have hq201 := (hf' 71 (by omega)).trans hq189
        have hq202 := (hf' 72 (by omega)).trans hq190
        have hq203 := (hf' 73 (by omega)).trans hq191
        have hq204 := (hf' 75 (by omega)).trans hq192
        have hq205 := (hf' 76 (by omega)).trans hq193
        have fr206 := Fr.one hf'
        refine q_iconst hc dX5_leadNet_89 ?_
        refine q_istore hc [(4, .int (iZ (-1))), (0, .ref (ad 66)), (1, .int (iZ ((t : Nat) : Int))), (2, .long (jZ ((sa : Nat) : Int)))] dX5_leadNet_90 (by decide) rfl ?_
        refine q_iconstN hc 0 dX5_leadNet_92 rfl ?_
        refine q_istore hc [(5, .int (iZ ((0 : Nat) : Int))), (4, .int (iZ (-1))), (0, .ref (ad 66)), (1, .int (iZ ((t : Nat) : Int))), (2, .long (jZ ((sa : Nat) : Int)))] dX5_leadNet_93 (by decide) rfl ?_
        refine V.sub [2, 3, 4, 1, 0] rfl ?_
        refine V.loopP (α := Nat) (fun x => pn t - x) (fun x => (x ≤ pn t) ∧ (True)) (fun x => [(0, .ref (ad 66)), (1, .int (iZ ((t : Nat) : Int))), (2, .long (jZ ((sa : Nat) : Int))), (4, .int (iZ (oZ (nrP T1 (itP (nbW w h) (btW w h) (coF cap (sbU us (ro t)) hi) n di1 n) (pi t) x)))), (5, .int (iZ ((x : Nat) : Int)))]) 0 ⟨(Nat.zero_le _), (trivial)⟩ rfl ?_
        intro k ih95 hI
        try dsimp only at ih95 hI ⊢
        obtain ⟨hk, hk2⟩ := hI
        refine q_iload hc 4 dX5_leadNet_95 rfl ?_
        refine q_aload_n hc 0 dX5_leadNet_97 rfl ?_
        refine q_get hc 66 6 i5 hq196 rfl (by decide) f16 rfl rfl dX5_leadNet_98 ?_
        refine q_iload_n hc 1 dX5_leadNet_101 rfl ?_
        refine q_ialdN (j := t) hc 69 hq199 rfl (by omega) (by omega) dX5_leadNet_102 ?_
        refine q_icmpN_ge hc 163 dX5_leadNet_103 (by decide) (by omega) (by omega) (fun c208 => ?_) (fun c208 => ?_)
        · obtain rfl : k = pn t := by omega
          rcases hq9 : nrP T1 (itP (nbW w h) (btW w h) (coF cap (sbU us (ro t)) hi) n di1 n) (pi t) (pn t) with _ | cq
          · refine V.lve (show ([(0, .ref (ad 66)), (1, .int (iZ ((t : Nat) : Int))), (2, .long (jZ ((sa : Nat) : Int))), (4, .int (iZ (oZ (none)))), (5, .int (iZ (((pn t) : Nat) : Int)))] : List (Nat × Value)) = [(0, .ref (ad 66)), (1, .int (iZ ((t : Nat) : Int))), (2, .long (jZ ((sa : Nat) : Int))), (4, .int (iZ (-1))), (5, .int (iZ (((pn t) : Nat) : Int)))] from by rw [show (oZ (none) : Int) = -1 from rfl]) ?_
            refine q_iload hc 3 dX5_leadNet_163 rfl ?_
            refine q_iconst hc dX5_leadNet_165 ?_
            refine q_icmp_eq hc 79 dX5_leadNet_166 (by decide) (by omega) (by omega) (fun c209 => ?_) (fun c209 => ?_)
            · refine V.sub [0, 1, 2, 3] rfl ?_
              exact ih79 (fu, none, T1, R1, itP (nbW w h) (btW w h) (coF cap (sbU us (ro t)) hi) n di1 n, di1, sa) _ (by first | exact Nat.succ_pos _ | (show _ - 1 + 1 < _ + 1; omega)) ⟨(hT0), (hTo), (hZ), (hU), (hdo), (hdb), (hCL), (hsa), (hj), (hf), (fun _ => (jn_R hq9).symm.trans hj), (⟨show (-1 : Int) ≤ -1 by decide, show (-1 : Int) < 64 by decide⟩), (hq203), (hq195), (hq205), (((fr100.trans fr183 (fun _ _ => by omega)).trans fr206 (fun _ _ => by omega)))⟩
            · exact absurd rfl c209
          · refine V.lve (show ([(0, .ref (ad 66)), (1, .int (iZ ((t : Nat) : Int))), (2, .long (jZ ((sa : Nat) : Int))), (4, .int (iZ (oZ ((some cq))))), (5, .int (iZ (((pn t) : Nat) : Int)))] : List (Nat × Value)) = [(0, .ref (ad 66)), (1, .int (iZ ((t : Nat) : Int))), (2, .long (jZ ((sa : Nat) : Int))), (4, .int (iZ ((cq : Nat) : Int))), (5, .int (iZ (((pn t) : Nat) : Int)))] from by rw [show (oZ ((some cq)) : Int) = ((cq : Nat) : Int) from rfl]) ?_
            have hcq := nrP_lt hpin (pn t) (Nat.le_refl _) hq9; have hm9 := nrP_mem (pn t) hq9
            refine q_iload hc 3 dX5_leadNet_163 rfl ?_
            refine q_iconst hc dX5_leadNet_165 ?_
            refine q_icmp_eq hc 79 dX5_leadNet_166 (by decide) (by omega) (by omega) (fun c210 => ?_) (fun c210 => ?_)
            · exact absurd c210 (by omega)
            · refine q_lload_n hc 2 dX5_leadNet_169 rfl ?_
              refine q_aload_n hc 0 dX5_leadNet_170 rfl ?_
              refine q_iload_n hc 1 dX5_leadNet_171 rfl ?_
              refine q_iload hc 3 dX5_leadNet_172 rfl ?_
              refine q_callMl (As := [.int (iZ ((t : Nat) : Int)), .int (iZ ((cq : Nat) : Int))]) (rest := [.long (jZ ((sa : Nat) : Int))]) hc (c_X5_walk l D K u194 ad w h n th nc rc t cq T1 R1 (itP (nbW w h) (btW w h) (coF cap (sbU us (ro t)) hi) n di1 n) (cFm n c0 cap (sbU us (ro t)) hi) (coF cap (sbU us (ro t)) hi) hq196 hq203 hq195 hq204 hq205 hW hC1 (fun b hb h9 => cFm_co h9) hcq hDI (itP_bd hdb n) hCL) (cwV 2 hc.1.2.2.2.2 gX5_leadNet_X5_walk rfl rfl rfl (by decide +kernel) ⟨Nat.le_of_ble_eq_true rfl, Nat.le_of_ble_eq_true rfl⟩) 66 hq196 rfl rfl rfl (by simp [Value.category]) dX5_leadNet_174 ⟨Nat.zero_le _, Nat.zero_le _⟩ (fun r212 u211 hp' => ?_)
              obtain ⟨hr218, hx213, hx214, hx215, hx216, hx217, hq219, hq220, fr221⟩ := hp'
              have hq222 := (fr221.at 66 (by omega)).trans hq196
              have hq223 := (fr221.at 67 (by omega)).trans hq197
              have hq224 := (fr221.at 68 (by omega)).trans hq198
              have hq225 := (fr221.at 69 (by omega)).trans hq199
              have hq226 := (fr221.at 70 (by omega)).trans hq200
              have hq227 := (fr221.at 71 (by omega)).trans hq201
              have hq228 := (fr221.at 72 (by omega)).trans hq202
              have hq229 := (fr221.at 74 (by omega)).trans hq195
              have hq230 := (fr221.at 75 (by omega)).trans hq204
              subst hr218
              refine q_ladd hc dX5_leadNet_177 ?_
              have hp9 := pin_lt hx214 hx215 hm9 hf
              refine V.topj (show _ = ((sR n (coF cap (sbU us (ro t)) hi) (wk (nbW w h) (btW w h) (itP (nbW w h) (btW w h) (coF cap (sbU us (ro t)) hi) n di1 n) (coF cap (sbU us (ro t)) hi) n T1 R1 cq).2.1 : Nat) : Int) from by have l9 := hx217; omega) ?_
              refine q_lstore_n hc [(2, .long (jZ ((sR n (coF cap (sbU us (ro t)) hi) (wk (nbW w h) (btW w h) (itP (nbW w h) (btW w h) (coF cap (sbU us (ro t)) hi) n di1 n) (coF cap (sbU us (ro t)) hi) n T1 R1 cq).2.1 : Nat) : Int))), (0, .ref (ad 66)), (1, .int (iZ ((t : Nat) : Int))), (4, .int (iZ ((cq : Nat) : Int))), (5, .int (iZ (((pn t) : Nat) : Int)))] dX5_leadNet_178 rfl (by decide) rfl ?_
              refine q_goto hc 79 dX5_leadNet_179 (by decide) ?_
              refine V.sub [1, 2, 0, 3] rfl ?_
              exact ih79 (fu - 1, some cq, (wk (nbW w h) (btW w h) (itP (nbW w h) (btW w h) (coF cap (sbU us (ro t)) hi) n di1 n) (coF cap (sbU us (ro t)) hi) n T1 R1 cq).1, (wk (nbW w h) (btW w h) (itP (nbW w h) (btW w h) (coF cap (sbU us (ro t)) hi) n di1 n) (coF cap (sbU us (ro t)) hi) n T1 R1 cq).2.1, itP (nbW w h) (btW w h) (coF cap (sbU us (ro t)) hi) n di1 n, fun k => if (wk (nbW w h) (btW w h) (itP (nbW w h) (btW w h) (coF cap (sbU us (ro t)) hi) n di1 n) (coF cap (sbU us (ro t)) hi) n T1 R1 cq).1 k = true then 0 else (itP (nbW w h) (btW w h) (coF cap (sbU us (ro t)) hi) n di1 n) k, sR n (coF cap (sbU us (ro t)) hi) (wk (nbW w h) (btW w h) (itP (nbW w h) (btW w h) (coF cap (sbU us (ro t)) hi) n di1 n) (coF cap (sbU us (ro t)) hi) n T1 R1 cq).2.1) _ (by first | exact Nat.succ_pos _ | (show _ - 1 + 1 < _ + 1; omega)) ⟨(hx214 _ hT0), (fun k9 h9 => (hx216 k9 h9).trans (hTo k9 h9)), (di2_Z0), (di2_Uw hDI hx214), (fun k9 h9 => (if_neg (show ¬ (wk (nbW w h) (btW w h) (itP (nbW w h) (btW w h) (coF cap (sbU us (ro t)) hi) n di1 n) (coF cap (sbU us (ro t)) hi) n T1 R1 cq).1 k9 = true by rw [hx216 k9 h9, hTo k9 h9]; decide)).trans ((itP_out h9 n).trans (hdo k9 h9))), (fun k9 => by have h9 := itP_bd (nb := nbW w h) (bt := btW w h) (co := coF cap (sbU us (ro t)) hi) (n := n) hdb n k9; show (if _ then 0 else _) ≤ _; split <;> omega), (hx213), (rfl), (by rw [← hj]; conv => rhs; rw [show fu = (fu - 1) + 1 by omega, jn_some hq9]), (hp9.2), (fun h9 => by cases h9), (by show -1 ≤ ((cq : Nat) : Int) ∧ ((cq : Nat) : Int) < 64; omega), (hq219), (hq229), (hq220), ((((fr100.trans fr183 (fun _ _ => by omega)).trans fr206 (fun _ _ => by omega)).trans fr221 (fun _ _ => by omega)))⟩
        · have hp8 := hpin k (by omega)
          refine q_aload_n hc 0 dX5_leadNet_106 rfl ?_
          refine q_get hc 66 7 i5 hq196 rfl (by decide) f19 rfl rfl dX5_leadNet_107 ?_
          refine q_iconstN hc 5 dX5_leadNet_110 rfl ?_
          refine q_iload_n hc 1 dX5_leadNet_111 rfl ?_
          refine q_imulN hc dX5_leadNet_112 ?_
          refine q_iload hc 4 dX5_leadNet_113 rfl ?_
          refine q_iaddN hc dX5_leadNet_115 ?_
          refine q_ialdN (j := 5 * t + k) hc 70 hq200 rfl (by omega) (by omega) dX5_leadNet_116 ?_
          refine V.topi (show _ = ((pi t k : Nat) : Int) from congrArg (fun a : Nat => (a : Int)) (mP_at (by omega))) ?_
          refine q_istore hc [(6, .int (iZ ((pi t k : Nat) : Int))), (0, .ref (ad 66)), (1, .int (iZ ((t : Nat) : Int))), (2, .long (jZ ((sa : Nat) : Int))), (4, .int (iZ (oZ (nrP T1 (itP (nbW w h) (btW w h) (coF cap (sbU us (ro t)) hi) n di1 n) (pi t) k)))), (5, .int (iZ ((k : Nat) : Int)))] dX5_leadNet_117 (by decide) rfl ?_
          refine q_aload_n hc 1 dX5_leadNet_119 rfl ?_
          refine q_get hc 66 11 i5 hq196 rfl (by decide) f29 rfl rfl dX5_leadNet_120 ?_
          refine q_iload hc 0 dX5_leadNet_123 rfl ?_
          refine q_zald (j := pi t k) hc 73 hq203 rfl (by omega) (by omega) dX5_leadNet_125 ?_
          refine q_ifz_ne hc 157 dX5_leadNet_126 (by decide) (fun c231 => ?_) (fun c231 => ?_)
          · refine V.lve (show ([(6, .int (iZ ((pi t k : Nat) : Int))), (0, .ref (ad 66)), (1, .int (iZ ((t : Nat) : Int))), (2, .long (jZ ((sa : Nat) : Int))), (4, .int (iZ (oZ (nrP T1 (itP (nbW w h) (btW w h) (coF cap (sbU us (ro t)) hi) n di1 n) (pi t) k)))), (5, .int (iZ ((k : Nat) : Int)))] : List (Nat × Value)) = [(6, .int (iZ ((pi t k : Nat) : Int))), (0, .ref (ad 66)), (1, .int (iZ ((t : Nat) : Int))), (2, .long (jZ ((sa : Nat) : Int))), (4, .int (iZ (oZ (nrP T1 (itP (nbW w h) (btW w h) (coF cap (sbU us (ro t)) hi) n di1 n) (pi t) (k + 1))))), (5, .int (iZ ((k : Nat) : Int)))] from by rw [show (oZ (nrP T1 (itP (nbW w h) (btW w h) (coF cap (sbU us (ro t)) hi) n di1 n) (pi t) k) : Int) = oZ (nrP T1 (itP (nbW w h) (btW w h) (coF cap (sbU us (ro t)) hi) n di1 n) (pi t) (k + 1)) from by rw [nrP_in c231]]) ?_
            refine q_iincN (q := 5) hc 1 [(5, .int (iZ ((k + 1 : Nat) : Int))), (6, .int (iZ ((pi t k : Nat) : Int))), (0, .ref (ad 66)), (1, .int (iZ ((t : Nat) : Int))), (2, .long (jZ ((sa : Nat) : Int))), (4, .int (iZ (oZ (nrP T1 (itP (nbW w h) (btW w h) (coF cap (sbU us (ro t)) hi) n di1 n) (pi t) (k + 1)))))] dX5_leadNet_157 rfl rfl (by decide) rfl ?_
            refine q_goto hc 95 dX5_leadNet_160 (by decide) ?_
            refine V.sub [2, 3, 4, 5, 0] rfl ?_
            exact ih95 (k + 1) (by omega) ⟨(by omega), (trivial)⟩
          · rcases hq9 : nrP T1 (itP (nbW w h) (btW w h) (coF cap (sbU us (ro t)) hi) n di1 n) (pi t) k with _ | cq
            · refine V.lve (show ([(6, .int (iZ ((pi t k : Nat) : Int))), (0, .ref (ad 66)), (1, .int (iZ ((t : Nat) : Int))), (2, .long (jZ ((sa : Nat) : Int))), (4, .int (iZ (oZ (none)))), (5, .int (iZ ((k : Nat) : Int)))] : List (Nat × Value)) = [(6, .int (iZ ((pi t k : Nat) : Int))), (0, .ref (ad 66)), (1, .int (iZ ((t : Nat) : Int))), (2, .long (jZ ((sa : Nat) : Int))), (4, .int (iZ (-1))), (5, .int (iZ ((k : Nat) : Int)))] from by rw [show (oZ (none) : Int) = -1 from rfl]) ?_
              refine q_iload hc 4 dX5_leadNet_129 rfl ?_
              refine q_iconst hc dX5_leadNet_131 ?_
              refine q_icmp_eq hc 153 dX5_leadNet_132 (by decide) (by omega) (by omega) (fun c232 => ?_) (fun c232 => ?_)
              · refine q_iload hc 0 dX5_leadNet_153 rfl ?_
                refine q_istore hc [(4, .int (iZ ((pi t k : Nat) : Int))), (6, .int (iZ ((pi t k : Nat) : Int))), (0, .ref (ad 66)), (1, .int (iZ ((t : Nat) : Int))), (2, .long (jZ ((sa : Nat) : Int))), (5, .int (iZ ((k : Nat) : Int)))] dX5_leadNet_155 (by decide) rfl ?_
                refine V.lve (show ([(4, .int (iZ ((pi t k : Nat) : Int))), (6, .int (iZ ((pi t k : Nat) : Int))), (0, .ref (ad 66)), (1, .int (iZ ((t : Nat) : Int))), (2, .long (jZ ((sa : Nat) : Int))), (5, .int (iZ ((k : Nat) : Int)))] : List (Nat × Value)) = [(4, .int (iZ (oZ (nrP T1 (itP (nbW w h) (btW w h) (coF cap (sbU us (ro t)) hi) n di1 n) (pi t) (k + 1))))), (6, .int (iZ ((pi t k : Nat) : Int))), (0, .ref (ad 66)), (1, .int (iZ ((t : Nat) : Int))), (2, .long (jZ ((sa : Nat) : Int))), (5, .int (iZ ((k : Nat) : Int)))] from by rw [show (((pi t k : Nat) : Int) : Int) = oZ (nrP T1 (itP (nbW w h) (btW w h) (coF cap (sbU us (ro t)) hi) n di1 n) (pi t) (k + 1)) from by rw [nrP_none c231 hq9.symm]; rfl]) ?_
                refine q_iincN (q := 5) hc 1 [(5, .int (iZ ((k + 1 : Nat) : Int))), (4, .int (iZ (oZ (nrP T1 (itP (nbW w h) (btW w h) (coF cap (sbU us (ro t)) hi) n di1 n) (pi t) (k + 1))))), (6, .int (iZ ((pi t k : Nat) : Int))), (0, .ref (ad 66)), (1, .int (iZ ((t : Nat) : Int))), (2, .long (jZ ((sa : Nat) : Int)))] dX5_leadNet_157 rfl rfl (by decide) rfl ?_
                refine q_goto hc 95 dX5_leadNet_160 (by decide) ?_
                refine V.sub [3, 4, 5, 1, 0] rfl ?_
                exact ih95 (k + 1) (by omega) ⟨(by omega), (trivial)⟩
              · exact absurd rfl c232
            · refine V.lve (show ([(6, .int (iZ ((pi t k : Nat) : Int))), (0, .ref (ad 66)), (1, .int (iZ ((t : Nat) : Int))), (2, .long (jZ ((sa : Nat) : Int))), (4, .int (iZ (oZ ((some cq))))), (5, .int (iZ ((k : Nat) : Int)))] : List (Nat × Value)) = [(6, .int (iZ ((pi t k : Nat) : Int))), (0, .ref (ad 66)), (1, .int (iZ ((t : Nat) : Int))), (2, .long (jZ ((sa : Nat) : Int))), (4, .int (iZ ((cq : Nat) : Int))), (5, .int (iZ ((k : Nat) : Int)))] from by rw [show (oZ ((some cq)) : Int) = ((cq : Nat) : Int) from rfl]) ?_
              have hcq := nrP_lt hpin k (by omega) hq9; have hb8 := itP_bd (nb := nbW w h) (bt := btW w h) (co := coF cap (sbU us (ro t)) hi) (n := n) hdb n cq; have hb7 := itP_bd (nb := nbW w h) (bt := btW w h) (co := coF cap (sbU us (ro t)) hi) (n := n) hdb n (pi t k)
              refine q_iload hc 4 dX5_leadNet_129 rfl ?_
              refine q_iconst hc dX5_leadNet_131 ?_
              refine q_icmp_eq hc 153 dX5_leadNet_132 (by decide) (by omega) (by omega) (fun c233 => ?_) (fun c233 => ?_)
              · exact absurd c233 (by omega)
              · refine q_aload_n hc 1 dX5_leadNet_135 rfl ?_
                refine q_get hc 66 12 i5 hq196 rfl (by decide) f32 rfl rfl dX5_leadNet_136 ?_
                refine q_iload hc 0 dX5_leadNet_139 rfl ?_
                refine q_laldN (j := pi t k) hc 74 hq195 rfl (by omega) (by omega) dX5_leadNet_141 ?_
                refine q_aload_n hc 1 dX5_leadNet_142 rfl ?_
                refine q_get hc 66 12 i5 hq196 rfl (by decide) f32 rfl rfl dX5_leadNet_143 ?_
                refine q_iload hc 4 dX5_leadNet_146 rfl ?_
                refine q_laldN (j := cq) hc 74 hq195 rfl (by omega) (by omega) dX5_leadNet_148 ?_
                refine q_lcmp hc dX5_leadNet_149 (by omega) (by omega) ?_
                refine q_cm_ge hc 157 dX5_leadNet_150 (by decide) (fun c234 => ?_) (fun c234 => ?_)
                · refine V.lve (show ([(6, .int (iZ ((pi t k : Nat) : Int))), (0, .ref (ad 66)), (1, .int (iZ ((t : Nat) : Int))), (2, .long (jZ ((sa : Nat) : Int))), (4, .int (iZ ((cq : Nat) : Int))), (5, .int (iZ ((k : Nat) : Int)))] : List (Nat × Value)) = [(6, .int (iZ ((pi t k : Nat) : Int))), (0, .ref (ad 66)), (1, .int (iZ ((t : Nat) : Int))), (2, .long (jZ ((sa : Nat) : Int))), (4, .int (iZ (oZ (nrP T1 (itP (nbW w h) (btW w h) (coF cap (sbU us (ro t)) hi) n di1 n) (pi t) (k + 1))))), (5, .int (iZ ((k : Nat) : Int)))] from by rw [show (((cq : Nat) : Int) : Int) = oZ (nrP T1 (itP (nbW w h) (btW w h) (coF cap (sbU us (ro t)) hi) n di1 n) (pi t) (k + 1)) from by rw [nrP_some c231 hq9.symm, if_neg (by omega)]; rfl]) ?_
                  refine q_iincN (q := 5) hc 1 [(5, .int (iZ ((k + 1 : Nat) : Int))), (6, .int (iZ ((pi t k : Nat) : Int))), (0, .ref (ad 66)), (1, .int (iZ ((t : Nat) : Int))), (2, .long (jZ ((sa : Nat) : Int))), (4, .int (iZ (oZ (nrP T1 (itP (nbW w h) (btW w h) (coF cap (sbU us (ro t)) hi) n di1 n) (pi t) (k + 1)))))] dX5_leadNet_157 rfl rfl (by decide) rfl ?_
                  refine q_goto hc 95 dX5_leadNet_160 (by decide) ?_
                  refine V.sub [2, 3, 4, 5, 0] rfl ?_
                  exact ih95 (k + 1) (by omega) ⟨(by omega), (trivial)⟩
                · refine q_iload hc 0 dX5_leadNet_153 rfl ?_
                  refine q_istore hc [(4, .int (iZ ((pi t k : Nat) : Int))), (6, .int (iZ ((pi t k : Nat) : Int))), (0, .ref (ad 66)), (1, .int (iZ ((t : Nat) : Int))), (2, .long (jZ ((sa : Nat) : Int))), (5, .int (iZ ((k : Nat) : Int)))] dX5_leadNet_155 (by decide) rfl ?_
                  refine V.lve (show ([(4, .int (iZ ((pi t k : Nat) : Int))), (6, .int (iZ ((pi t k : Nat) : Int))), (0, .ref (ad 66)), (1, .int (iZ ((t : Nat) : Int))), (2, .long (jZ ((sa : Nat) : Int))), (5, .int (iZ ((k : Nat) : Int)))] : List (Nat × Value)) = [(4, .int (iZ (oZ (nrP T1 (itP (nbW w h) (btW w h) (coF cap (sbU us (ro t)) hi) n di1 n) (pi t) (k + 1))))), (6, .int (iZ ((pi t k : Nat) : Int))), (0, .ref (ad 66)), (1, .int (iZ ((t : Nat) : Int))), (2, .long (jZ ((sa : Nat) : Int))), (5, .int (iZ ((k : Nat) : Int)))] from by rw [show (((pi t k : Nat) : Int) : Int) = oZ (nrP T1 (itP (nbW w h) (btW w h) (coF cap (sbU us (ro t)) hi) n di1 n) (pi t) (k + 1)) from by rw [nrP_some c231 hq9.symm, if_pos (by omega)]; rfl]) ?_
                  refine q_iincN (q := 5) hc 1 [(5, .int (iZ ((k + 1 : Nat) : Int))), (4, .int (iZ (oZ (nrP T1 (itP (nbW w h) (btW w h) (coF cap (sbU us (ro t)) hi) n di1 n) (pi t) (k + 1))))), (6, .int (iZ ((pi t k : Nat) : Int))), (0, .ref (ad 66)), (1, .int (iZ ((t : Nat) : Int))), (2, .long (jZ ((sa : Nat) : Int)))] dX5_leadNet_157 rfl rfl (by decide) rfl ?_
                  refine q_goto hc 95 dX5_leadNet_160 (by decide) ?_
                  refine V.sub [3, 4, 5, 1, 0] rfl ?_
                  exact ih95 (k + 1) (by omega) ⟨(by omega), (trivial)⟩
    · refine q_aload_n hc 0 dX5_leadNet_36 rfl ?_
      refine q_get hc 66 14 i5 hq34 rfl (by decide) f39 rfl rfl dX5_leadNet_37 ?_
      refine q_iload_n hc 2 dX5_leadNet_40 rfl ?_
      refine q_iconstN hc 0 dX5_leadNet_41 rfl ?_
      refine q_zast (j := i) (x := false) hc 76 hq31 rfl (by omega) (by omega) dX5_leadNet_42 (fun u235 hn' hf' => ?_)
      have hq236 : u235[76]? = some (ad 76, zA K 128 (va_up f i false)) := hn'
      have hq237 := (hf' 66 (by omega)).trans hq34
      have hq238 := (hf' 67 (by omega)).trans hq35
      have hq239 := (hf' 68 (by omega)).trans hq36
      have hq240 := (hf' 69 (by omega)).trans hq37
      have hq241 := (hf' 70 (by omega)).trans hq38
      have hq242 := (hf' 71 (by omega)).trans hq39
      have hq243 := (hf' 72 (by omega)).trans hq40
      have hq244 := (hf' 73 (by omega)).trans hq41
      have hq245 := (hf' 74 (by omega)).trans hq42
      have hq246 := (hf' 75 (by omega)).trans hq32
      have fr247 := Fr.one hf'
      refine q_aload_n hc 0 dX5_leadNet_43 rfl ?_
      refine q_get hc 66 13 i5 hq237 rfl (by decide) f36 rfl rfl dX5_leadNet_44 ?_
      refine q_iload_n hc 2 dX5_leadNet_47 rfl ?_
      refine q_aload_n hc 0 dX5_leadNet_48 rfl ?_
      refine q_iload_n hc 2 dX5_leadNet_49 rfl ?_
      refine q_callPl (As := [.int (iZ ((i : Nat) : Int))]) (rest := [.int (iZ ((i : Nat) : Int)), .ref (ad 75)]) hc (c_X5_cost l D K u235 ad w h n th nc rc i c0 cap (sbU us (ro t)) hi (va_up ro t (fun _ => false)) hq237 hq238 hq239 hq243 (by omega) hnc hUC1 hc0 hcap hus1 hhi) (cwV 1 hc.1.2.2.2.2 gX5_leadNet_X5_cost rfl rfl rfl (by decide +kernel) ⟨Nat.le_of_ble_eq_true rfl, Nat.le_of_ble_eq_true rfl⟩) 66 hq237 rfl rfl rfl (by simp [Value.category]) dX5_leadNet_50 ⟨Nat.zero_le _, Nat.zero_le _⟩ ?_
      refine V.topj (show _ = ((cFm n c0 cap (sbU us (ro t)) hi i : Nat) : Int) from rfl) ?_
      refine q_lastN (j := i) (x := cFm n c0 cap (sbU us (ro t)) hi i) hc 75 hq246 rfl (by omega) (by omega) dX5_leadNet_53 (fun u250 hn' hf' => ?_)
      have hq251 : u250[75]? = some (ad 75, jN K 128 (va_up g2 i (cFm n c0 cap (sbU us (ro t)) hi i))) := hn'
      have hq252 := (hf' 66 (by omega)).trans hq237
      have hq253 := (hf' 67 (by omega)).trans hq238
      have hq254 := (hf' 68 (by omega)).trans hq239
      have hq255 := (hf' 69 (by omega)).trans hq240
      have hq256 := (hf' 70 (by omega)).trans hq241
      have hq257 := (hf' 71 (by omega)).trans hq242
      have hq258 := (hf' 72 (by omega)).trans hq243
      have hq259 := (hf' 73 (by omega)).trans hq244
      have hq260 := (hf' 74 (by omega)).trans hq245
      have hq261 := (hf' 76 (by omega)).trans hq236
      have fr262 := Fr.one hf'
      refine q_iincN (q := 2) hc 1 [(2, .int (iZ ((i + 1 : Nat) : Int))), (0, .ref (ad 66)), (1, .int (iZ ((t : Nat) : Int)))] dX5_leadNet_54 rfl rfl (by decide) rfl ?_
      refine q_goto hc 29 dX5_leadNet_57 (by decide) ?_
      refine V.sub [1, 2, 0] rfl ?_
      exact ih29 (i + 1, va_up f i false, va_up g2 i (cFm n c0 cap (sbU us (ro t)) hi i)) _ (by omega) ⟨(by omega), (upd_hf (g := fun _ => false) hf), (upd_hf (g := cFm n c0 cap (sbU us (ro t)) hi) hg), (hq261), (hq251), (((fr33.trans fr247 (fun _ _ => by omega)).trans fr262 (fun _ _ => by omega)))⟩
  · refine q_aload_n hc 0 dX5_leadNet_14 rfl ?_
    refine q_get hc 66 11 i5 hq19 rfl (by decide) f29 rfl rfl dX5_leadNet_15 ?_
    refine q_iload_n hc 2 dX5_leadNet_18 rfl ?_
    refine q_iconstN hc 0 dX5_leadNet_19 rfl ?_
    refine q_zast (j := i0) (x := false) hc 73 hq17 rfl (by omega) (by omega) dX5_leadNet_20 (fun u263 hn' hf' => ?_)
    have hq264 : u263[73]? = some (ad 73, zA K 64 (va_up f0 i0 false)) := hn'
    have hq265 := (hf' 66 (by omega)).trans hq19
    have hq266 := (hf' 67 (by omega)).trans hq20
    have hq267 := (hf' 68 (by omega)).trans hq21
    have hq268 := (hf' 69 (by omega)).trans hq22
    have hq269 := (hf' 70 (by omega)).trans hq23
    have hq270 := (hf' 71 (by omega)).trans hq24
    have hq271 := (hf' 72 (by omega)).trans hq25
    have hq272 := (hf' 74 (by omega)).trans hq26
    have hq273 := (hf' 75 (by omega)).trans hq27
    have hq274 := (hf' 76 (by omega)).trans hq28
    have fr275 := Fr.one hf'
    refine q_iincN (q := 2) hc 1 [(2, .int (iZ ((i0 + 1 : Nat) : Int))), (0, .ref (ad 66)), (1, .int (iZ ((t : Nat) : Int)))] dX5_leadNet_21 rfl rfl (by decide) rfl ?_
    refine q_goto hc 8 dX5_leadNet_24 (by decide) ?_
    refine V.sub [1, 2, 0] rfl ?_
    exact ih8 (i0 + 1, va_up f0 i0 false) _ (by omega) ⟨(by omega), (upd_hf (g := fun _ => false) hT), (hq264), ((fr18.trans fr275 (fun _ _ => by omega)))⟩
