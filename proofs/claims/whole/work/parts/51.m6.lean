theorem sN_rng {w h n : Nat} (hW : WH w h n) (di co : Nat → Nat) (q j : Nat) : -1 ≤ oZ (sN w h di co q j) ∧ oZ (sN w h di co q j) < 64 := by
  have hn := hW.le
  unfold sN
  cases hs : stp (nbW w h) (btW w h) di co q j with
  | none => exact ⟨show (-1 : Int) ≤ -1 by decide, show (-1 : Int) < 64 by decide⟩
  | some k =>
    show -1 ≤ oZ (nbW w h k) ∧ oZ (nbW w h k) < 64
    rcases NB_W hW k with e | ⟨u, b, e, _, hu, _⟩
    · rw [e]; exact ⟨by decide, by decide⟩
    · rw [e]
      show -1 ≤ ((u : Nat) : Int) ∧ ((u : Nat) : Int) < 64
      omega
theorem wsub {tr T1 : Nat → Bool} {ce : Nat} (h : ∀ c9, tr c9 = true → T1 c9 = true) : ∀ c9, tr c9 = true → va_up T1 ce true c9 = true := fun c9 h9 => by
  by_cases e9 : c9 = ce
  · rw [e9, va_up_self]
  · rw [va_up_ne _ _ e9]; exact h c9 h9
theorem wcnt {n i ce : Nat} {T1 : Nat → Bool} (hce : ce < n) (hTc : T1 ce = false) (hcn : cnt (fun c9 => !T1 c9) n ≤ n - i) : cnt (fun c9 => !(va_up T1 ce true c9)) n ≤ n - (i + 1) := by
  have h9 := cnt_lt (p := fun c9 => !(va_up T1 ce true c9)) (q := fun c9 => !T1 c9) (n := n) (i := ce) (fun c9 _ h8 => by
    by_cases e9 : c9 = ce
    · subst e9
      have h7 : (!(va_up T1 c9 true c9)) = true := h8
      rw [va_up_self] at h7; cases h7
    · have h7 : (!(va_up T1 ce true c9)) = true := h8
      rw [va_up_ne _ _ e9] at h7; exact h7) hce (by show (!(va_up T1 ce true ce)) = false; rw [va_up_self]; rfl) (by show (!T1 ce) = true; rw [hTc]; rfl)
  omega
theorem wq0 {T1 : Nat → Bool} {q0 ce u2 : Nat} (h : T1 q0 = true ∨ ce = q0) : va_up T1 ce true q0 = true ∨ u2 = q0 := by
  by_cases e : q0 = ce
  · exact Or.inl (by rw [e, va_up_self])
  · rcases h with h | h
    · exact Or.inl (by rw [va_up_ne _ _ e]; exact h)
    · exact absurd h.symm e

set_option maxRecDepth 100000 in
set_option maxHeartbeats 4000000 in
theorem c_X5_walk (l : Launch) (D : va_G) (K : Nat → ClassId) (ws : va_W) (ad : Nat → Nat) (w h n th nc rc : Nat) (t q0 : Nat) (tr ro1 : Nat → Bool) (dv cm co : Nat → Nat) (h66 : ws[66]? = some (ad 66, mO ad w h th nc rc)) (m73 : ws[73]? = some (ad 73, zA K 64 tr)) (m74 : ws[74]? = some (ad 74, jN K 64 dv)) (m75 : ws[75]? = some (ad 75, jN K 128 cm)) (m76 : ws[76]? = some (ad 76, zA K 128 (mR n ro1))) (hW : WH w h n) (hC1 : C1 n co) (hcm : ∀ b, b < 128 → b % 64 < n → cm b = co (ub b)) (hq0 : q0 < n) (hDS : DS (nbW w h) (btW w h) n co tr dv) (hdb : ∀ k, dv k ≤ 1000000000) (hCL : CL (nbW w h) (btW w h) n tr ro1) : MMl l yX5_walk wsX5_walk ({ frames := 3, cells := 0, slots := 0, locals := 72 }) D K ws [.ref (ad 66), .int (iZ ((t : Nat) : Int)), .int (iZ ((q0 : Nat) : Int))] (fun r u => (r = (jZ ((sR n co (wk (nbW w h) (btW w h) dv co n tr ro1 q0).2.1 - sR n co ro1 : Nat) : Int))) ∧ (CL (nbW w h) (btW w h) n (wk (nbW w h) (btW w h) dv co n tr ro1 q0).1 (wk (nbW w h) (btW w h) dv co n tr ro1 q0).2.1) ∧ (∀ c, tr c = true → (wk (nbW w h) (btW w h) dv co n tr ro1 q0).1 c = true) ∧ ((wk (nbW w h) (btW w h) dv co n tr ro1 q0).1 q0 = true) ∧ (∀ c, n ≤ c → (wk (nbW w h) (btW w h) dv co n tr ro1 q0).1 c = tr c) ∧ (sR n co ro1 ≤ sR n co (wk (nbW w h) (btW w h) dv co n tr ro1 q0).2.1) ∧ (u[73]? = some (ad 73, zA K 64 ((wk (nbW w h) (btW w h) dv co n tr ro1 q0).1))) ∧ (u[76]? = some (ad 76, zA K 128 (mR n (wk (nbW w h) (btW w h) dv co n tr ro1 q0).2.1))) ∧ (Fr (fun j => j = 73 ∨ j = 76) ws u)) := by
  refine q_entMl RX5 [(0, .ref (ad 66)), (1, .int (iZ ((t : Nat) : Int))), (2, .int (iZ ((q0 : Nat) : Int)))] (by decide) rfl rfl (Nat.le_of_ble_eq_true rfl) rfl ?_
  intro p e s m args below meth c hc hr hlk
  have i5 : ∀ w ∈ u_ws RX5 TX5 16, w ∈ wsX5_walk := by decide +kernel
  have f29 := hc.1.2.2.2.2 (.fieldLink RX5 29 "GlobalRoutesModel" "inTree" "[Z") (by decide +kernel)
  have f36 := hc.1.2.2.2.2 (.fieldLink RX5 36 "GlobalRoutesModel" "costs" "[J") (by decide +kernel)
  have f39 := hc.1.2.2.2.2 (.fieldLink RX5 39 "GlobalRoutesModel" "reserved" "[Z") (by decide +kernel)
  have f32 := hc.1.2.2.2.2 (.fieldLink RX5 32 "GlobalRoutesModel" "distances" "[J") (by decide +kernel)
  have fr0 : Fr (fun j => j = 73 ∨ j = 76) ws ws := Fr.rfl
  have hn := hW.le; have hw2 := hW.1
  refine q_lconst (z := 0) hc dX5_walk_0 (by decide +kernel) ?_
  refine q_lstore_n hc [(3, .long (jZ 0)), (0, .ref (ad 66)), (1, .int (iZ ((t : Nat) : Int))), (2, .int (iZ ((q0 : Nat) : Int)))] dX5_walk_1 rfl (by decide) rfl ?_
  refine q_iload_n hc 3 dX5_walk_2 rfl ?_
  refine q_istore hc [(5, .int (iZ ((q0 : Nat) : Int))), (3, .long (jZ 0)), (0, .ref (ad 66)), (1, .int (iZ ((t : Nat) : Int))), (2, .int (iZ ((q0 : Nat) : Int)))] dX5_walk_3 (by decide) rfl ?_
  refine V.sub [2, 1, 0] rfl ?_
  refine V.loop (α := Nat × (Nat → Bool) × (Nat → Bool) × Nat × Nat) (fun x => n - x.1) (fun x u => (x.2.2.2.1 < n) ∧ (∀ c9, tr c9 = true → x.2.1 c9 = true) ∧ (wk (nbW w h) (btW w h) dv co (n - x.1) x.2.1 x.2.2.1 x.2.2.2.1 = wk (nbW w h) (btW w h) dv co n tr ro1 q0) ∧ (cnt (fun c9 => !x.2.1 c9) n ≤ n - x.1) ∧ (CLw (nbW w h) (btW w h) n dv x.2.1 x.2.2.1 x.2.2.2.1) ∧ (sR n co ro1 + x.2.2.2.2 = sR n co x.2.2.1) ∧ (x.2.1 q0 = true ∨ x.2.2.2.1 = q0) ∧ (∀ c9, n ≤ c9 → x.2.1 c9 = tr c9) ∧ (u[73]? = some (ad 73, zA K 64 x.2.1)) ∧ (u[76]? = some (ad 76, zA K 128 (mR n x.2.2.1))) ∧ (Fr (fun j => j = 73 ∨ j = 76) ws u)) (fun x => [(0, .ref (ad 66)), (3, .long (jZ ((x.2.2.2.2 : Nat) : Int))), (5, .int (iZ ((x.2.2.2.1 : Nat) : Int)))]) (0, tr, ro1, q0, 0) ⟨(hq0), (fun _ h9 => h9), (rfl), (cnt_le _ _), (hCL.w), (rfl), (Or.inr rfl), (fun _ _ => rfl), (m73), (m76), (Fr.rfl)⟩ rfl ?_
  intro x ih5 u1 hI
  obtain ⟨i, T1, R1, ce, sa⟩ := x
  try dsimp only at ih5 hI ⊢
  obtain ⟨hce, hsub, hwk, hcn, hCw, hsa, hq1, hTo, hq2, hq3, fr4⟩ := hI
  have hq5 := (fr4.at 66 (by omega)).trans h66
  have hq6 := (fr4.at 74 (by omega)).trans m74
  have hq7 := (fr4.at 75 (by omega)).trans m75
  refine q_aload_n hc 0 dX5_walk_5 rfl ?_
  refine q_get hc 66 11 i5 hq5 rfl (by decide) f29 rfl rfl dX5_walk_6 ?_
  refine q_iload hc 2 dX5_walk_9 rfl ?_
  refine q_zald (j := ce) hc 73 hq2 rfl (by omega) (by omega) dX5_walk_11 ?_
  refine q_ifz_ne hc 155 dX5_walk_12 (by decide) (fun c8 => ?_) (fun c8 => ?_)
  · have hTc : T1 ce = true := c8
    have hE : wk (nbW w h) (btW w h) dv co n tr ro1 q0 = (T1, R1, ce) := by rw [← hwk, wk_in hTc]
    refine q_norm_zA (g := (wk (nbW w h) (btW w h) dv co n tr ro1 q0).1) hc 73 hq2 (fun k9 _ => by rw [hE]) (fun u9 hn' hf' => ?_)
    have hq10 : u9[73]? = some (ad 73, zA K 64 ((wk (nbW w h) (btW w h) dv co n tr ro1 q0).1)) := hn'
    have hq11 := (hf' 66 (by omega)).trans hq5
    have hq12 := (hf' 74 (by omega)).trans hq6
    have hq13 := (hf' 75 (by omega)).trans hq7
    have hq14 := (hf' 76 (by omega)).trans hq3
    have fr15 := Fr.one hf'
    refine q_norm_zA (g := mR n (wk (nbW w h) (btW w h) dv co n tr ro1 q0).2.1) hc 76 hq14 (fun k9 _ => by rw [hE]) (fun u16 hn' hf' => ?_)
    have hq17 : u16[76]? = some (ad 76, zA K 128 (mR n (wk (nbW w h) (btW w h) dv co n tr ro1 q0).2.1)) := hn'
    have hq18 := (hf' 66 (by omega)).trans hq11
    have hq19 := (hf' 73 (by omega)).trans hq10
    have hq20 := (hf' 74 (by omega)).trans hq12
    have hq21 := (hf' 75 (by omega)).trans hq13
    have fr22 := Fr.one hf'
    refine q_lload_n hc 1 dX5_walk_155 rfl ?_
    exact q_lretM (z := ((sa : Nat) : Int)) hc (⟨congrArg jZ (by rw [hE]; show _ = ((sR n co R1 - sR n co ro1 : Nat) : Int); omega), by rw [hE]; exact hCw.end hTc, by rw [hE]; exact hsub, by rw [hE]; exact hq1.elim id (fun z9 => by rw [← z9]; exact hTc), by rw [hE]; exact hTo, by rw [hE]; show _ ≤ sR n co R1; omega, hq19, hq17, (((fr0.trans fr4 (fun _ _ => by omega)).trans fr15 (fun _ _ => by omega)).trans fr22 (fun _ _ => by omega))⟩) hr hlk dX5_walk_156
  · have hTc : T1 ce = false := c8
    have hpos := cnt_pos (p := fun c9 => !T1 c9) hce (by show (!T1 ce) = true; rw [hTc]; rfl)
    refine q_aload_n hc 0 dX5_walk_15 rfl ?_
    refine q_get hc 66 11 i5 hq5 rfl (by decide) f29 rfl rfl dX5_walk_16 ?_
    refine q_iload hc 2 dX5_walk_19 rfl ?_
    refine q_iconstN hc 1 dX5_walk_21 rfl ?_
    refine q_zast (j := ce) (x := true) hc 73 hq2 rfl (by omega) (by omega) dX5_walk_22 (fun u23 hn' hf' => ?_)
    have hq24 : u23[73]? = some (ad 73, zA K 64 (va_up T1 ce true)) := hn'
    have hq25 := (hf' 66 (by omega)).trans hq5
    have hq26 := (hf' 74 (by omega)).trans hq6
    have hq27 := (hf' 75 (by omega)).trans hq7
    have hq28 := (hf' 76 (by omega)).trans hq3
    have fr29 := Fr.one hf'
    refine q_iconst hc dX5_walk_23 ?_
    refine q_istore hc [(6, .int (iZ (-1))), (0, .ref (ad 66)), (3, .long (jZ ((sa : Nat) : Int))), (5, .int (iZ ((ce : Nat) : Int)))] dX5_walk_24 (by decide) rfl ?_
    refine q_iconst hc dX5_walk_26 ?_
    refine q_istore hc [(7, .int (iZ (-1))), (6, .int (iZ (-1))), (0, .ref (ad 66)), (3, .long (jZ ((sa : Nat) : Int))), (5, .int (iZ ((ce : Nat) : Int)))] dX5_walk_27 (by decide) rfl ?_
    refine q_iconstN hc 0 dX5_walk_29 rfl ?_
    refine q_istore hc [(8, .int (iZ ((0 : Nat) : Int))), (7, .int (iZ (-1))), (6, .int (iZ (-1))), (0, .ref (ad 66)), (3, .long (jZ ((sa : Nat) : Int))), (5, .int (iZ ((ce : Nat) : Int)))] dX5_walk_30 (by decide) rfl ?_
    refine V.sub [3, 4, 5, 2, 1, 0] rfl ?_
    refine V.loopP (α := Nat) (fun x => 4 - x) (fun x => (x ≤ 4) ∧ (True)) (fun x => [(0, .ref (ad 66)), (3, .long (jZ ((sa : Nat) : Int))), (5, .int (iZ ((ce : Nat) : Int))), (6, .int (iZ (oZ (sN w h dv co ce x)))), (7, .int (iZ (oZ (sB w h dv co ce x)))), (8, .int (iZ ((x : Nat) : Int)))]) 0 ⟨(Nat.zero_le _), (trivial)⟩ rfl ?_
    intro j ih32 hI
    try dsimp only at ih32 hI ⊢
    obtain ⟨hj, hj2⟩ := hI
    refine q_iload hc 5 dX5_walk_32 rfl ?_
    refine q_iconstN hc 4 dX5_walk_34 rfl ?_
    refine q_icmpN_ge hc 130 dX5_walk_35 (by decide) (by omega) (by omega) (fun c31 => ?_) (fun c31 => ?_)
    · obtain rfl : j = 4 := by omega
      have htc : tr ce = false := by cases h9 : tr ce with | false => rfl | true => (rw [hsub ce h9] at hTc; cases hTc)
      obtain ⟨u0, b0, he0, hd0⟩ := hDS.2.2 ce hce htc
      obtain ⟨k2, u2, b2, hk2, hu2, hb2, hd2, he2⟩ := stp_ex he0 hd0
      have hl2 := Ed_lt hW he2; have g9 := hC1 b2 hl2.2.2; obtain ⟨a1, a2, a3, a4, a5⟩ := Ed_isW hW he2; have hlt2 : dv u2 < dv ce := by omega
      refine V.lve (show ([(0, .ref (ad 66)), (3, .long (jZ ((sa : Nat) : Int))), (5, .int (iZ ((ce : Nat) : Int))), (6, .int (iZ (oZ (sN w h dv co ce 4)))), (7, .int (iZ (oZ (sB w h dv co ce 4)))), (8, .int (iZ ((4 : Nat) : Int)))] : List (Nat × Value)) = [(0, .ref (ad 66)), (3, .long (jZ ((sa : Nat) : Int))), (5, .int (iZ ((ce : Nat) : Int))), (6, .int (iZ ((u2 : Nat) : Int))), (7, .int (iZ (oZ (sB w h dv co ce 4)))), (8, .int (iZ ((4 : Nat) : Int)))] from by rw [show (oZ (sN w h dv co ce 4) : Int) = ((u2 : Nat) : Int) from by unfold sN; rw [hk2]; show oZ (nbW w h k2) = _; rw [hu2]; rfl]) ?_
      refine V.lve (show ([(0, .ref (ad 66)), (3, .long (jZ ((sa : Nat) : Int))), (5, .int (iZ ((ce : Nat) : Int))), (6, .int (iZ ((u2 : Nat) : Int))), (7, .int (iZ (oZ (sB w h dv co ce 4)))), (8, .int (iZ ((4 : Nat) : Int)))] : List (Nat × Value)) = [(0, .ref (ad 66)), (3, .long (jZ ((sa : Nat) : Int))), (5, .int (iZ ((ce : Nat) : Int))), (6, .int (iZ ((u2 : Nat) : Int))), (7, .int (iZ ((mbI b2 : Nat) : Int))), (8, .int (iZ ((4 : Nat) : Int)))] from by rw [show (oZ (sB w h dv co ce 4) : Int) = ((mbI b2 : Nat) : Int) from by unfold sB; rw [hk2]; show oZ ((btW w h k2).map mbI) = _; rw [hb2]; rfl]) ?_
      refine q_lload_n hc 1 dX5_walk_130 rfl ?_
      refine q_aload_n hc 0 dX5_walk_131 rfl ?_
      refine q_get hc 66 13 i5 hq25 rfl (by decide) f36 rfl rfl dX5_walk_132 ?_
      refine q_iload hc 4 dX5_walk_135 rfl ?_
      refine q_laldN (j := mbI b2) hc 75 hq27 rfl (by omega) (by omega) dX5_walk_137 ?_
      refine q_ladd hc dX5_walk_138 ?_
      refine V.topj (show _ = ((sa + co b2 : Nat) : Int) from by rw [hcm _ a1 a2, a4]; omega) ?_
      refine q_lstore_n hc [(3, .long (jZ ((sa + co b2 : Nat) : Int))), (0, .ref (ad 66)), (5, .int (iZ ((ce : Nat) : Int))), (6, .int (iZ ((u2 : Nat) : Int))), (7, .int (iZ ((mbI b2 : Nat) : Int))), (8, .int (iZ ((4 : Nat) : Int)))] dX5_walk_139 rfl (by decide) rfl ?_
      refine q_aload_n hc 1 dX5_walk_140 rfl ?_
      refine q_get hc 66 14 i5 hq25 rfl (by decide) f39 rfl rfl dX5_walk_141 ?_
      refine q_iload hc 4 dX5_walk_144 rfl ?_
      refine q_iconstN hc 1 dX5_walk_146 rfl ?_
      refine q_zast (j := mbI b2) (x := true) hc 76 hq28 rfl (by omega) (by omega) dX5_walk_147 (fun u32 hn' hf' => ?_)
      have hq33 : u32[76]? = some (ad 76, zA K 128 (va_up (mR n R1) (mbI b2) true)) := hn'
      have hq34 := (hf' 66 (by omega)).trans hq25
      have hq35 := (hf' 73 (by omega)).trans hq24
      have hq36 := (hf' 74 (by omega)).trans hq26
      have hq37 := (hf' 75 (by omega)).trans hq27
      have fr38 := Fr.one hf'
      refine q_norm_zA (g := mR n (va_up R1 b2 true)) hc 76 hq33 (fun k hk => mR_up hn hl2.2.2 hk) (fun u39 hn' hf' => ?_)
      have hq40 : u39[76]? = some (ad 76, zA K 128 (mR n (va_up R1 b2 true))) := hn'
      have hq41 := (hf' 66 (by omega)).trans hq34
      have hq42 := (hf' 73 (by omega)).trans hq35
      have hq43 := (hf' 74 (by omega)).trans hq36
      have hq44 := (hf' 75 (by omega)).trans hq37
      have fr45 := Fr.one hf'
      refine q_iload hc 3 dX5_walk_148 rfl ?_
      refine q_istore hc [(5, .int (iZ ((u2 : Nat) : Int))), (3, .long (jZ ((sa + co b2 : Nat) : Int))), (0, .ref (ad 66)), (6, .int (iZ ((u2 : Nat) : Int))), (7, .int (iZ ((mbI b2 : Nat) : Int))), (8, .int (iZ ((4 : Nat) : Int)))] dX5_walk_150 (by decide) rfl ?_
      refine q_goto hc 5 dX5_walk_152 (by decide) ?_
      refine V.sub [2, 1, 0] rfl ?_
      exact ih5 (i + 1, va_up T1 ce true, va_up R1 b2 true, u2, sa + co b2) _ (by omega) ⟨(hl2.2.1), (wsub hsub), (by rw [← hwk, show n - i = (n - (i + 1)) + 1 by omega, wk_go hTc hk2 hu2 hb2]), (wcnt hce hTc hcn), (hCw.step hW.1.1 he2 hlt2), (by rw [sR_up hl2.2.2 (hCw.new hce hTc he2 hlt2), ← hsa, Nat.add_assoc]), (wq0 hq1), (fun c9 h9 => (va_up_ne T1 true (show c9 ≠ ce by omega)).trans (hTo c9 h9)), (hq42), (hq40), ((((fr4.trans fr29 (fun _ _ => by omega)).trans fr38 (fun _ _ => by omega)).trans fr45 (fun _ _ => by omega)))⟩
    · refine q_aload_n hc 0 dX5_walk_38 rfl ?_
      refine q_iload hc 2 dX5_walk_39 rfl ?_
      refine q_iload hc 5 dX5_walk_41 rfl ?_
      refine q_callPi (As := [.int (iZ ((ce : Nat) : Int)), .int (iZ ((j : Nat) : Int))]) (rest := []) hc (c_X5_borderTo l D K u23 ad w h _ th nc rc ce j hq25 hW (by omega) (by omega)) (cwV 2 hc.1.2.2.2.2 gX5_walk_X5_borderTo rfl rfl rfl (by decide +kernel) ⟨Nat.le_of_ble_eq_true rfl, Nat.le_of_ble_eq_true rfl⟩) 66 hq25 rfl rfl rfl (by decide) dX5_walk_43 ⟨Nat.zero_le _, Nat.zero_le _⟩ ?_
      rcases NB_W hW (4 * ce + j) with hu | ⟨u, b, hu, hb, hu1, hb1⟩
      · refine V.topi (show _ = -1 from by rw [nbt_none hu]; rfl) ?_
        refine q_istore hc [(9, .int (iZ (-1))), (0, .ref (ad 66)), (3, .long (jZ ((sa : Nat) : Int))), (5, .int (iZ ((ce : Nat) : Int))), (6, .int (iZ (oZ (sN w h dv co ce j)))), (7, .int (iZ (oZ (sB w h dv co ce j)))), (8, .int (iZ ((j : Nat) : Int)))] dX5_walk_46 (by decide) rfl ?_
        refine q_iload hc 0 dX5_walk_48 rfl ?_
        refine q_iconst hc dX5_walk_50 ?_
        refine q_icmp_eq hc 124 dX5_walk_51 (by decide) (by omega) (by omega) (fun c48 => ?_) (fun c48 => ?_)
        · have e9 : stp (nbW w h) (btW w h) dv co ce (j + 1) = stp (nbW w h) (btW w h) dv co ce j := stp_keep (by rw [dth_none hu]; intro z9; cases z9)
          refine V.lve (show ([(9, .int (iZ (-1))), (0, .ref (ad 66)), (3, .long (jZ ((sa : Nat) : Int))), (5, .int (iZ ((ce : Nat) : Int))), (6, .int (iZ (oZ (sN w h dv co ce j)))), (7, .int (iZ (oZ (sB w h dv co ce j)))), (8, .int (iZ ((j : Nat) : Int)))] : List (Nat × Value)) = [(9, .int (iZ (-1))), (0, .ref (ad 66)), (3, .long (jZ ((sa : Nat) : Int))), (5, .int (iZ ((ce : Nat) : Int))), (6, .int (iZ (oZ (sN w h dv co ce (j + 1))))), (7, .int (iZ (oZ (sB w h dv co ce j)))), (8, .int (iZ ((j : Nat) : Int)))] from by rw [show (oZ (sN w h dv co ce j) : Int) = oZ (sN w h dv co ce (j + 1)) from by unfold sN; rw [e9]]) ?_
          refine V.lve (show ([(9, .int (iZ (-1))), (0, .ref (ad 66)), (3, .long (jZ ((sa : Nat) : Int))), (5, .int (iZ ((ce : Nat) : Int))), (6, .int (iZ (oZ (sN w h dv co ce (j + 1))))), (7, .int (iZ (oZ (sB w h dv co ce j)))), (8, .int (iZ ((j : Nat) : Int)))] : List (Nat × Value)) = [(9, .int (iZ (-1))), (0, .ref (ad 66)), (3, .long (jZ ((sa : Nat) : Int))), (5, .int (iZ ((ce : Nat) : Int))), (6, .int (iZ (oZ (sN w h dv co ce (j + 1))))), (7, .int (iZ (oZ (sB w h dv co ce (j + 1))))), (8, .int (iZ ((j : Nat) : Int)))] from by rw [show (oZ (sB w h dv co ce j) : Int) = oZ (sB w h dv co ce (j + 1)) from by unfold sB; rw [e9]]) ?_
          refine q_iincN (q := 6) hc 1 [(8, .int (iZ ((j + 1 : Nat) : Int))), (9, .int (iZ (-1))), (0, .ref (ad 66)), (3, .long (jZ ((sa : Nat) : Int))), (5, .int (iZ ((ce : Nat) : Int))), (6, .int (iZ (oZ (sN w h dv co ce (j + 1))))), (7, .int (iZ (oZ (sB w h dv co ce (j + 1)))))] dX5_walk_124 rfl rfl (by decide) rfl ?_
          refine q_goto hc 32 dX5_walk_127 (by decide) ?_
          refine V.sub [2, 3, 4, 5, 6, 0] rfl ?_
          exact ih32 (j + 1) (by omega) ⟨(by omega), (trivial)⟩
        · exact absurd rfl c48
      · refine V.topi (show _ = ((mbI b : Nat) : Int) from by rw [hb]; rfl) ?_
        have he9 : Ed (nbW w h) (btW w h) ce u b := ⟨j, by omega, hu, hb⟩
        obtain ⟨a1, a2, a3, a4, a5⟩ := Ed_isW hW he9
        have g5 : ¬ bey w (mbI b) = mbI b % 64 := by unfold bey; split <;> omega
        have g6 := hC1 b hb1; have g7 := hdb u; have g8 := hdb ce; have g4 := sN_rng hW dv co ce j
        refine q_istore hc [(9, .int (iZ ((mbI b : Nat) : Int))), (0, .ref (ad 66)), (3, .long (jZ ((sa : Nat) : Int))), (5, .int (iZ ((ce : Nat) : Int))), (6, .int (iZ (oZ (sN w h dv co ce j)))), (7, .int (iZ (oZ (sB w h dv co ce j)))), (8, .int (iZ ((j : Nat) : Int)))] dX5_walk_46 (by decide) rfl ?_
        refine q_iload hc 0 dX5_walk_48 rfl ?_
        refine q_iconst hc dX5_walk_50 ?_
        refine q_icmp_eq hc 124 dX5_walk_51 (by decide) (by omega) (by omega) (fun c49 => ?_) (fun c49 => ?_)
        · exact absurd c49 (by omega)
        · refine q_iload hc 4 dX5_walk_54 rfl ?_
          refine q_iconst hc dX5_walk_56 ?_
          refine q_icmp_eq hc 63 dX5_walk_57 (by decide) (by omega) (by omega) (fun c50 => ?_) (fun c50 => ?_)
          · refine q_aload_n hc 1 dX5_walk_63 rfl ?_
            refine q_iload hc 0 dX5_walk_64 rfl ?_
            refine q_callPn (As := [.int (iZ ((mbI b : Nat) : Int))]) (rest := []) hc (c_X5_beyond l D K u23 ad w h th nc rc (mbI b) hq25 hw2 (by omega)) (cwV 1 hc.1.2.2.2.2 gX5_walk_X5_beyond rfl rfl rfl (by decide +kernel) ⟨Nat.le_of_ble_eq_true rfl, Nat.le_of_ble_eq_true rfl⟩) 66 hq25 rfl rfl rfl (by decide) dX5_walk_66 ⟨Nat.zero_le _, Nat.zero_le _⟩ ?_
            refine q_iload hc 3 dX5_walk_69 rfl ?_
            refine q_icmpN_ne hc 82 dX5_walk_71 (by decide) (by omega) (by omega) (fun c53 => ?_) (fun c53 => ?_)
            · refine q_aload_n hc 1 dX5_walk_82 rfl ?_
              refine q_iload hc 0 dX5_walk_83 rfl ?_
              refine q_callPn (As := [.int (iZ ((mbI b : Nat) : Int))]) (rest := []) hc (c_X5_beyond l D K u23 ad w h th nc rc (mbI b) hq25 hw2 (by omega)) (cwV 1 hc.1.2.2.2.2 gX5_walk_X5_beyond rfl rfl rfl (by decide +kernel) ⟨Nat.le_of_ble_eq_true rfl, Nat.le_of_ble_eq_true rfl⟩) 66 hq25 rfl rfl rfl (by decide) dX5_walk_85 ⟨Nat.zero_le _, Nat.zero_le _⟩ ?_
              refine V.topi (show _ = ((u : Nat) : Int) from by omega) ?_
              refine q_istore hc [(10, .int (iZ ((u : Nat) : Int))), (9, .int (iZ ((mbI b : Nat) : Int))), (0, .ref (ad 66)), (3, .long (jZ ((sa : Nat) : Int))), (5, .int (iZ ((ce : Nat) : Int))), (6, .int (iZ (oZ (sN w h dv co ce j)))), (7, .int (iZ (oZ (sB w h dv co ce j)))), (8, .int (iZ ((j : Nat) : Int)))] dX5_walk_88 (by decide) rfl ?_
              refine q_aload_n hc 2 dX5_walk_90 rfl ?_
              refine q_get hc 66 12 i5 hq25 rfl (by decide) f32 rfl rfl dX5_walk_91 ?_
              refine q_iload hc 0 dX5_walk_94 rfl ?_
              refine q_laldN (j := u) hc 74 hq26 rfl (by omega) (by omega) dX5_walk_96 ?_
              refine q_aload_n hc 2 dX5_walk_97 rfl ?_
              refine q_get hc 66 13 i5 hq25 rfl (by decide) f36 rfl rfl dX5_walk_98 ?_
              refine q_iload hc 1 dX5_walk_101 rfl ?_
              refine q_laldN (j := mbI b) hc 75 hq27 rfl (by omega) (by omega) dX5_walk_103 ?_
              refine V.topj (show _ = ((co b : Nat) : Int) from by rw [hcm _ a1 a2, a4]) ?_
              refine q_ladd hc dX5_walk_104 ?_
              refine q_aload_n hc 2 dX5_walk_105 rfl ?_
              refine q_get hc 66 12 i5 hq25 rfl (by decide) f32 rfl rfl dX5_walk_106 ?_
              refine q_iload hc 4 dX5_walk_109 rfl ?_
              refine q_laldN (j := ce) hc 74 hq26 rfl (by omega) (by omega) dX5_walk_111 ?_
              refine q_lcmp hc dX5_walk_112 (by omega) (by omega) ?_
              refine q_cm_ne hc 124 dX5_walk_113 (by decide) (fun c56 => ?_) (fun c56 => ?_)
              · have e9 : stp (nbW w h) (btW w h) dv co ce (j + 1) = stp (nbW w h) (btW w h) dv co ce j := stp_keep (by rw [dth_some hu hb]; intro z9; exact c56 (by have z8 := Option.some.inj z9; omega))
                refine V.lve (show ([(10, .int (iZ ((u : Nat) : Int))), (9, .int (iZ ((mbI b : Nat) : Int))), (0, .ref (ad 66)), (3, .long (jZ ((sa : Nat) : Int))), (5, .int (iZ ((ce : Nat) : Int))), (6, .int (iZ (oZ (sN w h dv co ce j)))), (7, .int (iZ (oZ (sB w h dv co ce j)))), (8, .int (iZ ((j : Nat) : Int)))] : List (Nat × Value)) = [(10, .int (iZ ((u : Nat) : Int))), (9, .int (iZ ((mbI b : Nat) : Int))), (0, .ref (ad 66)), (3, .long (jZ ((sa : Nat) : Int))), (5, .int (iZ ((ce : Nat) : Int))), (6, .int (iZ (oZ (sN w h dv co ce (j + 1))))), (7, .int (iZ (oZ (sB w h dv co ce j)))), (8, .int (iZ ((j : Nat) : Int)))] from by rw [show (oZ (sN w h dv co ce j) : Int) = oZ (sN w h dv co ce (j + 1)) from by unfold sN; rw [e9]]) ?_
                refine V.lve (show ([(10, .int (iZ ((u : Nat) : Int))), (9, .int (iZ ((mbI b : Nat) : Int))), (0, .ref (ad 66)), (3, .long (jZ ((sa : Nat) : Int))), (5, .int (iZ ((ce : Nat) : Int))), (6, .int (iZ (oZ (sN w h dv co ce (j + 1))))), (7, .int (iZ (oZ (sB w h dv co ce j)))), (8, .int (iZ ((j : Nat) : Int)))] : List (Nat × Value)) = [(10, .int (iZ ((u : Nat) : Int))), (9, .int (iZ ((mbI b : Nat) : Int))), (0, .ref (ad 66)), (3, .long (jZ ((sa : Nat) : Int))), (5, .int (iZ ((ce : Nat) : Int))), (6, .int (iZ (oZ (sN w h dv co ce (j + 1))))), (7, .int (iZ (oZ (sB w h dv co ce (j + 1))))), (8, .int (iZ ((j : Nat) : Int)))] from by rw [show (oZ (sB w h dv co ce j) : Int) = oZ (sB w h dv co ce (j + 1)) from by unfold sB; rw [e9]]) ?_
                refine q_iincN (q := 7) hc 1 [(8, .int (iZ ((j + 1 : Nat) : Int))), (10, .int (iZ ((u : Nat) : Int))), (9, .int (iZ ((mbI b : Nat) : Int))), (0, .ref (ad 66)), (3, .long (jZ ((sa : Nat) : Int))), (5, .int (iZ ((ce : Nat) : Int))), (6, .int (iZ (oZ (sN w h dv co ce (j + 1))))), (7, .int (iZ (oZ (sB w h dv co ce (j + 1)))))] dX5_walk_124 rfl rfl (by decide) rfl ?_
                refine q_goto hc 32 dX5_walk_127 (by decide) ?_
                refine V.sub [3, 4, 5, 6, 7, 0] rfl ?_
                exact ih32 (j + 1) (by omega) ⟨(by omega), (trivial)⟩
              · refine q_iload hc 0 dX5_walk_116 rfl ?_
                refine q_istore hc [(6, .int (iZ ((u : Nat) : Int))), (10, .int (iZ ((u : Nat) : Int))), (9, .int (iZ ((mbI b : Nat) : Int))), (0, .ref (ad 66)), (3, .long (jZ ((sa : Nat) : Int))), (5, .int (iZ ((ce : Nat) : Int))), (7, .int (iZ (oZ (sB w h dv co ce j)))), (8, .int (iZ ((j : Nat) : Int)))] dX5_walk_118 (by decide) rfl ?_
                refine q_iload hc 2 dX5_walk_120 rfl ?_
                refine q_istore hc [(7, .int (iZ ((mbI b : Nat) : Int))), (6, .int (iZ ((u : Nat) : Int))), (10, .int (iZ ((u : Nat) : Int))), (9, .int (iZ ((mbI b : Nat) : Int))), (0, .ref (ad 66)), (3, .long (jZ ((sa : Nat) : Int))), (5, .int (iZ ((ce : Nat) : Int))), (8, .int (iZ ((j : Nat) : Int)))] dX5_walk_122 (by decide) rfl ?_
                have e9 : stp (nbW w h) (btW w h) dv co ce (j + 1) = some (4 * ce + j) := stp_yes (sN_none c50) (by rw [dth_some hu hb]; exact congrArg some (by omega)) (j + 1) (by omega)
                refine V.lve (show ([(7, .int (iZ ((mbI b : Nat) : Int))), (6, .int (iZ ((u : Nat) : Int))), (10, .int (iZ ((u : Nat) : Int))), (9, .int (iZ ((mbI b : Nat) : Int))), (0, .ref (ad 66)), (3, .long (jZ ((sa : Nat) : Int))), (5, .int (iZ ((ce : Nat) : Int))), (8, .int (iZ ((j : Nat) : Int)))] : List (Nat × Value)) = [(7, .int (iZ ((mbI b : Nat) : Int))), (6, .int (iZ (oZ (sN w h dv co ce (j + 1))))), (10, .int (iZ ((u : Nat) : Int))), (9, .int (iZ ((mbI b : Nat) : Int))), (0, .ref (ad 66)), (3, .long (jZ ((sa : Nat) : Int))), (5, .int (iZ ((ce : Nat) : Int))), (8, .int (iZ ((j : Nat) : Int)))] from by rw [show (((u : Nat) : Int) : Int) = oZ (sN w h dv co ce (j + 1)) from by unfold sN; rw [e9]; show _ = oZ (nbW w h (4 * ce + j)); rw [hu]; rfl]) ?_
                refine V.lve (show ([(7, .int (iZ ((mbI b : Nat) : Int))), (6, .int (iZ (oZ (sN w h dv co ce (j + 1))))), (10, .int (iZ ((u : Nat) : Int))), (9, .int (iZ ((mbI b : Nat) : Int))), (0, .ref (ad 66)), (3, .long (jZ ((sa : Nat) : Int))), (5, .int (iZ ((ce : Nat) : Int))), (8, .int (iZ ((j : Nat) : Int)))] : List (Nat × Value)) = [(7, .int (iZ (oZ (sB w h dv co ce (j + 1))))), (6, .int (iZ (oZ (sN w h dv co ce (j + 1))))), (10, .int (iZ ((u : Nat) : Int))), (9, .int (iZ ((mbI b : Nat) : Int))), (0, .ref (ad 66)), (3, .long (jZ ((sa : Nat) : Int))), (5, .int (iZ ((ce : Nat) : Int))), (8, .int (iZ ((j : Nat) : Int)))] from by rw [show (((mbI b : Nat) : Int) : Int) = oZ (sB w h dv co ce (j + 1)) from by unfold sB; rw [e9]; show _ = oZ ((btW w h (4 * ce + j)).map mbI); rw [hb]; rfl]) ?_
                refine q_iincN (q := 7) hc 1 [(8, .int (iZ ((j + 1 : Nat) : Int))), (7, .int (iZ (oZ (sB w h dv co ce (j + 1))))), (6, .int (iZ (oZ (sN w h dv co ce (j + 1))))), (10, .int (iZ ((u : Nat) : Int))), (9, .int (iZ ((mbI b : Nat) : Int))), (0, .ref (ad 66)), (3, .long (jZ ((sa : Nat) : Int))), (5, .int (iZ ((ce : Nat) : Int)))] dX5_walk_124 rfl rfl (by decide) rfl ?_
                refine q_goto hc 32 dX5_walk_127 (by decide) ?_
                refine V.sub [5, 6, 7, 2, 1, 0] rfl ?_
                exact ih32 (j + 1) (by omega) ⟨(by omega), (trivial)⟩
            · refine q_iload hc 0 dX5_walk_74 rfl ?_
              refine q_bipushN hc 64 dX5_walk_76 (by decide +kernel) ?_
              refine q_iremN hc dX5_walk_78 (by omega) (by omega) ?_
              refine q_goto hc 88 dX5_walk_79 (by decide) ?_
              refine V.topi (show _ = ((u : Nat) : Int) from by omega) ?_
              refine q_istore hc [(10, .int (iZ ((u : Nat) : Int))), (9, .int (iZ ((mbI b : Nat) : Int))), (0, .ref (ad 66)), (3, .long (jZ ((sa : Nat) : Int))), (5, .int (iZ ((ce : Nat) : Int))), (6, .int (iZ (oZ (sN w h dv co ce j)))), (7, .int (iZ (oZ (sB w h dv co ce j)))), (8, .int (iZ ((j : Nat) : Int)))] dX5_walk_88 (by decide) rfl ?_
              refine q_aload_n hc 2 dX5_walk_90 rfl ?_
              refine q_get hc 66 12 i5 hq25 rfl (by decide) f32 rfl rfl dX5_walk_91 ?_
              refine q_iload hc 0 dX5_walk_94 rfl ?_
              refine q_laldN (j := u) hc 74 hq26 rfl (by omega) (by omega) dX5_walk_96 ?_
              refine q_aload_n hc 2 dX5_walk_97 rfl ?_
              refine q_get hc 66 13 i5 hq25 rfl (by decide) f36 rfl rfl dX5_walk_98 ?_
              refine q_iload hc 1 dX5_walk_101 rfl ?_
              refine q_laldN (j := mbI b) hc 75 hq27 rfl (by omega) (by omega) dX5_walk_103 ?_
              refine V.topj (show _ = ((co b : Nat) : Int) from by rw [hcm _ a1 a2, a4]) ?_
              refine q_ladd hc dX5_walk_104 ?_
              refine q_aload_n hc 2 dX5_walk_105 rfl ?_
              refine q_get hc 66 12 i5 hq25 rfl (by decide) f32 rfl rfl dX5_walk_106 ?_
              refine q_iload hc 4 dX5_walk_109 rfl ?_
              refine q_laldN (j := ce) hc 74 hq26 rfl (by omega) (by omega) dX5_walk_111 ?_
              refine q_lcmp hc dX5_walk_112 (by omega) (by omega) ?_
              refine q_cm_ne hc 124 dX5_walk_113 (by decide) (fun c57 => ?_) (fun c57 => ?_)
              · have e9 : stp (nbW w h) (btW w h) dv co ce (j + 1) = stp (nbW w h) (btW w h) dv co ce j := stp_keep (by rw [dth_some hu hb]; intro z9; exact c57 (by have z8 := Option.some.inj z9; omega))
                refine V.lve (show ([(10, .int (iZ ((u : Nat) : Int))), (9, .int (iZ ((mbI b : Nat) : Int))), (0, .ref (ad 66)), (3, .long (jZ ((sa : Nat) : Int))), (5, .int (iZ ((ce : Nat) : Int))), (6, .int (iZ (oZ (sN w h dv co ce j)))), (7, .int (iZ (oZ (sB w h dv co ce j)))), (8, .int (iZ ((j : Nat) : Int)))] : List (Nat × Value)) = [(10, .int (iZ ((u : Nat) : Int))), (9, .int (iZ ((mbI b : Nat) : Int))), (0, .ref (ad 66)), (3, .long (jZ ((sa : Nat) : Int))), (5, .int (iZ ((ce : Nat) : Int))), (6, .int (iZ (oZ (sN w h dv co ce (j + 1))))), (7, .int (iZ (oZ (sB w h dv co ce j)))), (8, .int (iZ ((j : Nat) : Int)))] from by rw [show (oZ (sN w h dv co ce j) : Int) = oZ (sN w h dv co ce (j + 1)) from by unfold sN; rw [e9]]) ?_
                refine V.lve (show ([(10, .int (iZ ((u : Nat) : Int))), (9, .int (iZ ((mbI b : Nat) : Int))), (0, .ref (ad 66)), (3, .long (jZ ((sa : Nat) : Int))), (5, .int (iZ ((ce : Nat) : Int))), (6, .int (iZ (oZ (sN w h dv co ce (j + 1))))), (7, .int (iZ (oZ (sB w h dv co ce j)))), (8, .int (iZ ((j : Nat) : Int)))] : List (Nat × Value)) = [(10, .int (iZ ((u : Nat) : Int))), (9, .int (iZ ((mbI b : Nat) : Int))), (0, .ref (ad 66)), (3, .long (jZ ((sa : Nat) : Int))), (5, .int (iZ ((ce : Nat) : Int))), (6, .int (iZ (oZ (sN w h dv co ce (j + 1))))), (7, .int (iZ (oZ (sB w h dv co ce (j + 1))))), (8, .int (iZ ((j : Nat) : Int)))] from by rw [show (oZ (sB w h dv co ce j) : Int) = oZ (sB w h dv co ce (j + 1)) from by unfold sB; rw [e9]]) ?_
                refine q_iincN (q := 7) hc 1 [(8, .int (iZ ((j + 1 : Nat) : Int))), (10, .int (iZ ((u : Nat) : Int))), (9, .int (iZ ((mbI b : Nat) : Int))), (0, .ref (ad 66)), (3, .long (jZ ((sa : Nat) : Int))), (5, .int (iZ ((ce : Nat) : Int))), (6, .int (iZ (oZ (sN w h dv co ce (j + 1))))), (7, .int (iZ (oZ (sB w h dv co ce (j + 1)))))] dX5_walk_124 rfl rfl (by decide) rfl ?_
                refine q_goto hc 32 dX5_walk_127 (by decide) ?_
                refine V.sub [3, 4, 5, 6, 7, 0] rfl ?_
                exact ih32 (j + 1) (by omega) ⟨(by omega), (trivial)⟩
              · refine q_iload hc 0 dX5_walk_116 rfl ?_
                refine q_istore hc [(6, .int (iZ ((u : Nat) : Int))), (10, .int (iZ ((u : Nat) : Int))), (9, .int (iZ ((mbI b : Nat) : Int))), (0, .ref (ad 66)), (3, .long (jZ ((sa : Nat) : Int))), (5, .int (iZ ((ce : Nat) : Int))), (7, .int (iZ (oZ (sB w h dv co ce j)))), (8, .int (iZ ((j : Nat) : Int)))] dX5_walk_118 (by decide) rfl ?_
                refine q_iload hc 2 dX5_walk_120 rfl ?_
                refine q_istore hc [(7, .int (iZ ((mbI b : Nat) : Int))), (6, .int (iZ ((u : Nat) : Int))), (10, .int (iZ ((u : Nat) : Int))), (9, .int (iZ ((mbI b : Nat) : Int))), (0, .ref (ad 66)), (3, .long (jZ ((sa : Nat) : Int))), (5, .int (iZ ((ce : Nat) : Int))), (8, .int (iZ ((j : Nat) : Int)))] dX5_walk_122 (by decide) rfl ?_
                have e9 : stp (nbW w h) (btW w h) dv co ce (j + 1) = some (4 * ce + j) := stp_yes (sN_none c50) (by rw [dth_some hu hb]; exact congrArg some (by omega)) (j + 1) (by omega)
                refine V.lve (show ([(7, .int (iZ ((mbI b : Nat) : Int))), (6, .int (iZ ((u : Nat) : Int))), (10, .int (iZ ((u : Nat) : Int))), (9, .int (iZ ((mbI b : Nat) : Int))), (0, .ref (ad 66)), (3, .long (jZ ((sa : Nat) : Int))), (5, .int (iZ ((ce : Nat) : Int))), (8, .int (iZ ((j : Nat) : Int)))] : List (Nat × Value)) = [(7, .int (iZ ((mbI b : Nat) : Int))), (6, .int (iZ (oZ (sN w h dv co ce (j + 1))))), (10, .int (iZ ((u : Nat) : Int))), (9, .int (iZ ((mbI b : Nat) : Int))), (0, .ref (ad 66)), (3, .long (jZ ((sa : Nat) : Int))), (5, .int (iZ ((ce : Nat) : Int))), (8, .int (iZ ((j : Nat) : Int)))] from by rw [show (((u : Nat) : Int) : Int) = oZ (sN w h dv co ce (j + 1)) from by unfold sN; rw [e9]; show _ = oZ (nbW w h (4 * ce + j)); rw [hu]; rfl]) ?_
                refine V.lve (show ([(7, .int (iZ ((mbI b : Nat) : Int))), (6, .int (iZ (oZ (sN w h dv co ce (j + 1))))), (10, .int (iZ ((u : Nat) : Int))), (9, .int (iZ ((mbI b : Nat) : Int))), (0, .ref (ad 66)), (3, .long (jZ ((sa : Nat) : Int))), (5, .int (iZ ((ce : Nat) : Int))), (8, .int (iZ ((j : Nat) : Int)))] : List (Nat × Value)) = [(7, .int (iZ (oZ (sB w h dv co ce (j + 1))))), (6, .int (iZ (oZ (sN w h dv co ce (j + 1))))), (10, .int (iZ ((u : Nat) : Int))), (9, .int (iZ ((mbI b : Nat) : Int))), (0, .ref (ad 66)), (3, .long (jZ ((sa : Nat) : Int))), (5, .int (iZ ((ce : Nat) : Int))), (8, .int (iZ ((j : Nat) : Int)))] from by rw [show (((mbI b : Nat) : Int) : Int) = oZ (sB w h dv co ce (j + 1)) from by unfold sB; rw [e9]; show _ = oZ ((btW w h (4 * ce + j)).map mbI); rw [hb]; rfl]) ?_
                refine q_iincN (q := 7) hc 1 [(8, .int (iZ ((j + 1 : Nat) : Int))), (7, .int (iZ (oZ (sB w h dv co ce (j + 1))))), (6, .int (iZ (oZ (sN w h dv co ce (j + 1))))), (10, .int (iZ ((u : Nat) : Int))), (9, .int (iZ ((mbI b : Nat) : Int))), (0, .ref (ad 66)), (3, .long (jZ ((sa : Nat) : Int))), (5, .int (iZ ((ce : Nat) : Int)))] dX5_walk_124 rfl rfl (by decide) rfl ?_
                refine q_goto hc 32 dX5_walk_127 (by decide) ?_
                refine V.sub [5, 6, 7, 2, 1, 0] rfl ?_
                exact ih32 (j + 1) (by omega) ⟨(by omega), (trivial)⟩
          · refine q_goto hc 124 dX5_walk_60 (by decide) ?_
            obtain ⟨k9, hk9⟩ := sN_some c50; have e9 : stp (nbW w h) (btW w h) dv co ce (j + 1) = stp (nbW w h) (btW w h) dv co ce j := (stp_keep2 hk9).trans hk9.symm
            refine V.lve (show ([(9, .int (iZ ((mbI b : Nat) : Int))), (0, .ref (ad 66)), (3, .long (jZ ((sa : Nat) : Int))), (5, .int (iZ ((ce : Nat) : Int))), (6, .int (iZ (oZ (sN w h dv co ce j)))), (7, .int (iZ (oZ (sB w h dv co ce j)))), (8, .int (iZ ((j : Nat) : Int)))] : List (Nat × Value)) = [(9, .int (iZ ((mbI b : Nat) : Int))), (0, .ref (ad 66)), (3, .long (jZ ((sa : Nat) : Int))), (5, .int (iZ ((ce : Nat) : Int))), (6, .int (iZ (oZ (sN w h dv co ce (j + 1))))), (7, .int (iZ (oZ (sB w h dv co ce j)))), (8, .int (iZ ((j : Nat) : Int)))] from by rw [show (oZ (sN w h dv co ce j) : Int) = oZ (sN w h dv co ce (j + 1)) from by unfold sN; rw [e9]]) ?_
            refine V.lve (show ([(9, .int (iZ ((mbI b : Nat) : Int))), (0, .ref (ad 66)), (3, .long (jZ ((sa : Nat) : Int))), (5, .int (iZ ((ce : Nat) : Int))), (6, .int (iZ (oZ (sN w h dv co ce (j + 1))))), (7, .int (iZ (oZ (sB w h dv co ce j)))), (8, .int (iZ ((j : Nat) : Int)))] : List (Nat × Value)) = [(9, .int (iZ ((mbI b : Nat) : Int))), (0, .ref (ad 66)), (3, .long (jZ ((sa : Nat) : Int))), (5, .int (iZ ((ce : Nat) : Int))), (6, .int (iZ (oZ (sN w h dv co ce (j + 1))))), (7, .int (iZ (oZ (sB w h dv co ce (j + 1))))), (8, .int (iZ ((j : Nat) : Int)))] from by rw [show (oZ (sB w h dv co ce j) : Int) = oZ (sB w h dv co ce (j + 1)) from by unfold sB; rw [e9]]) ?_
            refine q_iincN (q := 6) hc 1 [(8, .int (iZ ((j + 1 : Nat) : Int))), (9, .int (iZ ((mbI b : Nat) : Int))), (0, .ref (ad 66)), (3, .long (jZ ((sa : Nat) : Int))), (5, .int (iZ ((ce : Nat) : Int))), (6, .int (iZ (oZ (sN w h dv co ce (j + 1))))), (7, .int (iZ (oZ (sB w h dv co ce (j + 1)))))] dX5_walk_124 rfl rfl (by decide) rfl ?_
            refine q_goto hc 32 dX5_walk_127 (by decide) ?_
            refine V.sub [2, 3, 4, 5, 6, 0] rfl ?_
            exact ih32 (j + 1) (by omega) ⟨(by omega), (trivial)⟩
