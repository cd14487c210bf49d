
set_option maxRecDepth 100000 in
set_option maxHeartbeats 4000000 in
theorem c_X4_playRound (l : Launch) (D : va_G) (K : Nat → ClassId) (ws : va_W) (ad : Nat → Nat) (nc rc : Nat) (w h n : Nat) (cap us hi co di : Nat → Nat) (tr : Nat → Bool) (nb bt : Nat → Option Nat) (pn : Nat → Nat) (rl : Nat → Int) (pi : Nat → Nat → Nat) (ro : Nat → Nat → Bool) (h0 : ws[0]? = some (ad 0, xO ad nc rc)) (h1 : ws[1]? = some (ad 1, gO ad w h n)) (h2 : ws[2]? = some (ad 2, iN K (2 * n) cap)) (h3 : ws[3]? = some (ad 3, iN K (2 * n) us)) (h4 : ws[4]? = some (ad 4, iN K (2 * n) hi)) (h5 : ws[5]? = some (ad 5, iA K (4 * n) (fun k => oZ (nb k)))) (h6 : ws[6]? = some (ad 6, iA K (4 * n) (fun k => oZ (bt k)))) (h7 : ws[7]? = some (ad 7, lO ad)) (h8 : ws[8]? = some (ad 8, iN K (2 * n) co)) (h9 : ws[9]? = some (ad 9, iN K n di)) (h10 : ws[10]? = some (ad 10, zA K n tr)) (h29 : ws[29]? = some (ad 29, nA K 12 (nF ad))) (hN : ∀ s, s < 12 → ws[30 + 3 * s]? = some (ad (30 + 3 * s), nO ad s (pn s) (rl s))) (hP : ∀ s, s < 12 → ws[31 + 3 * s]? = some (ad (31 + 3 * s), iN K 5 (pi s))) (hO : ∀ s, s < 12 → ws[32 + 3 * s]? = some (ad (32 + 3 * s), zA K (2 * n) (ro s))) (hn : n ≤ 64) (hnc : nc ≤ 12) (hNB : NB n nb bt) (hcap : ∀ k, k < 2 * n → cap k ≤ 20) (hhi : ∀ k, k < 2 * n → hi k ≤ 5120) (hpn : ∀ j, j < nc → pn j ≤ 5) (hpin : ∀ j k, j < nc → k < pn j → pi j k < n) (hI : Inv n nc (us, ro, rl)) : MMv l yX4_playRound wsX4_playRound ({ frames := 5, cells := 0, slots := 0, locals := 115 }) D K ws [.ref (ad 0)] (fun u => ∃ (cv : Nat → Nat) (dv : Nat → Nat) (tv : Nat → Bool), (u[3]? = some (ad 3, iN K (2 * n) ((plS nb bt n cap hi pn pi (us, ro, rl) nc).1))) ∧ (u[4]? = some (ad 4, iN K (2 * n) (fun k => hi k + (if 0 < (plS nb bt n cap hi pn pi (us, ro, rl) nc).1 k - cap k then 1 else 0)))) ∧ (u[0]? = some (ad 0, xO ad nc (rc + 1))) ∧ (u[8]? = some (ad 8, iN K (2 * n) cv)) ∧ (u[9]? = some (ad 9, iN K n dv)) ∧ (u[10]? = some (ad 10, zA K n tv)) ∧ (∀ s, s < 12 → u[30 + 3 * s]? = some (ad (30 + 3 * s), nO ad s (pn s) (((plS nb bt n cap hi pn pi (us, ro, rl) nc).2.2) s))) ∧ (∀ s, s < 12 → u[32 + 3 * s]? = some (ad (32 + 3 * s), zA K (2 * n) (((plS nb bt n cap hi pn pi (us, ro, rl) nc).2.1) s))) ∧ (Fr (fun j => j = 3 ∨ j = 4 ∨ j = 0 ∨ j = 8 ∨ j = 9 ∨ j = 10 ∨ (30 ≤ j ∧ j < 66 ∧ (j - 30) % 3 = 0) ∨ (32 ≤ j ∧ j < 68 ∧ (j - 32) % 3 = 0)) ws u)) := by
  refine q_entMv RX4 [(0, .ref (ad 0))] (by decide) rfl rfl (Nat.le_of_ble_eq_true rfl) rfl ?_
  intro p e s m args below meth c hc hr hlk
  have i4 : ∀ w ∈ u_ws RX4 TX4 6, w ∈ wsX4_playRound := by decide +kernel
  have f51 := hc.1.2.2.2.2 (.fieldLink RX4 51 "GlobalRoutes" "netCount" "I") (by decide +kernel)
  have f18 := hc.1.2.2.2.2 (.fieldLink RX4 18 "GlobalRoutes" "grid" "LGlobalRoutes$Grid;") (by decide +kernel)
  have f54 := hc.1.2.2.2.2 (.fieldLink RX4 54 "GlobalRoutes" "roundCount" "I") (by decide +kernel)
  have f40 := hc.1.2.2.2.2 (.fieldLink RX4 40 "GlobalRoutes" "nets" "[LGlobalRoutes$Net;") (by decide +kernel)
  have i3 : ∀ w ∈ u_ws RX3 TX3 4, w ∈ wsX4_playRound := by decide +kernel
  have f136 := hc.1.2.2.2.2 (.fieldLink RX4 136 "GlobalRoutes$Net" "route" "[Z") (by decide +kernel)
  have fr0 : Fr (fun j => j = 3 ∨ j = 4 ∨ j = 0 ∨ j = 8 ∨ j = 9 ∨ j = 10 ∨ (30 ≤ j ∧ j < 66 ∧ (j - 30) % 3 = 0) ∨ (32 ≤ j ∧ j < 68 ∧ (j - 32) % 3 = 0)) ws ws := Fr.rfl
  refine q_iconstN hc 0 dX4_playRound_0 rfl ?_
  refine q_istore_n hc [(1, .int (iZ ((0 : Nat) : Int))), (0, .ref (ad 0))] dX4_playRound_1 rfl (by decide) rfl ?_
  refine V.sub [1, 0] rfl ?_
  refine V.loop (α := Nat × (Nat → Nat) × (Nat → Nat → Bool) × (Nat → Int) × (Nat → Nat) × (Nat → Nat) × (Nat → Bool)) (fun x => nc - x.1) (fun x u => (x.1 ≤ nc) ∧ ((x.2.1, x.2.2.1, x.2.2.2.1) = plS nb bt n cap hi pn pi (us, ro, rl) x.1) ∧ (Inv n nc (x.2.1, x.2.2.1, x.2.2.2.1)) ∧ (u[3]? = some (ad 3, iN K (2 * n) x.2.1)) ∧ (u[8]? = some (ad 8, iN K (2 * n) x.2.2.2.2.1)) ∧ (u[9]? = some (ad 9, iN K n x.2.2.2.2.2.1)) ∧ (u[10]? = some (ad 10, zA K n x.2.2.2.2.2.2)) ∧ (∀ s, s < 12 → u[30 + 3 * s]? = some (ad (30 + 3 * s), nO ad s (pn s) (x.2.2.2.1 s))) ∧ (∀ s, s < 12 → u[32 + 3 * s]? = some (ad (32 + 3 * s), zA K (2 * n) (x.2.2.1 s))) ∧ (Fr (fun j => j = 3 ∨ j = 8 ∨ j = 9 ∨ j = 10 ∨ (30 ≤ j ∧ j < 66 ∧ (j - 30) % 3 = 0) ∨ (32 ≤ j ∧ j < 68 ∧ (j - 32) % 3 = 0)) ws u)) (fun x => [(0, .ref (ad 0)), (1, .int (iZ ((x.1 : Nat) : Int)))]) (0, us, ro, rl, co, di, tr) ⟨(Nat.zero_le _), (rfl), (hI), (h3), (h8), (h9), (h10), (hN), (hO), (Fr.rfl)⟩ rfl ?_
  intro x ih2 u1 hI
  obtain ⟨i, U, O, L, cv, dv, tv⟩ := x
  try dsimp only at ih2 hI ⊢
  obtain ⟨hi0, hS, hI9, hq2, hq3, hq4, hq5, hq6, hq7, fr8⟩ := hI
  have hq9 := (fr8.at 0 (by omega)).trans h0
  have hq10 := (fr8.at 1 (by omega)).trans h1
  have hq11 := (fr8.at 2 (by omega)).trans h2
  have hq12 := (fr8.at 4 (by omega)).trans h4
  have hq13 := (fr8.at 5 (by omega)).trans h5
  have hq14 := (fr8.at 6 (by omega)).trans h6
  have hq15 := (fr8.at 7 (by omega)).trans h7
  have hq16 := (fr8.at 29 (by omega)).trans h29
  have hq17 : ∀ s, s < 12 → u1[31 + 3 * s]? = some (ad (31 + 3 * s), iN K 5 (pi s)) := fun s hs => (fr8.at (31 + 3 * s) (by omega)).trans (hP s hs)
  refine q_iload_n hc 1 dX4_playRound_2 rfl ?_
  refine q_aload_n hc 0 dX4_playRound_3 rfl ?_
  refine q_get hc 0 4 i4 hq9 rfl (by decide) f51 rfl rfl dX4_playRound_4 ?_
  refine q_icmpN_ge hc 57 dX4_playRound_7 (by decide) (by omega) (by omega) (fun c18 => ?_) (fun c18 => ?_)
  · obtain rfl : nc = i := by omega
    refine q_norm_iN (g := (plS nb bt n cap hi pn pi (us, ro, rl) nc).1) hc 3 hq2 (fun k _ => by rw [← hS]) (fun u19 hn' hf' => ?_)
    have hq20 : u19[3]? = some (ad 3, iN K (2 * n) ((plS nb bt n cap hi pn pi (us, ro, rl) nc).1)) := hn'
    have hq21 := (hf' 0 (by omega)).trans hq9
    have hq22 := (hf' 1 (by omega)).trans hq10
    have hq23 := (hf' 2 (by omega)).trans hq11
    have hq24 := (hf' 4 (by omega)).trans hq12
    have hq25 := (hf' 5 (by omega)).trans hq13
    have hq26 := (hf' 6 (by omega)).trans hq14
    have hq27 := (hf' 7 (by omega)).trans hq15
    have hq28 := (hf' 8 (by omega)).trans hq3
    have hq29 := (hf' 9 (by omega)).trans hq4
    have hq30 := (hf' 10 (by omega)).trans hq5
    have hq31 := (hf' 29 (by omega)).trans hq16
    have hq32 : ∀ s, s < 12 → u19[30 + 3 * s]? = some (ad (30 + 3 * s), nO ad s (pn s) (L s)) := fun s hs => (hf' (30 + 3 * s) (by omega)).trans (hq6 s hs)
    have hq33 : ∀ s, s < 12 → u19[31 + 3 * s]? = some (ad (31 + 3 * s), iN K 5 (pi s)) := fun s hs => (hf' (31 + 3 * s) (by omega)).trans (hq17 s hs)
    have hq34 : ∀ s, s < 12 → u19[32 + 3 * s]? = some (ad (32 + 3 * s), zA K (2 * n) (O s)) := fun s hs => (hf' (32 + 3 * s) (by omega)).trans (hq7 s hs)
    have fr35 := Fr.one hf'
    have hq36 : ∀ s, s < 12 → u19[30 + 3 * s]? = some (ad (30 + 3 * s), nO ad s (pn s) (((plS nb bt n cap hi pn pi (us, ro, rl) nc).2.2) s)) := fun s hs => by have h8 := hq32 s hs; rw [← hS]; exact h8
    have hq37 : ∀ s, s < 12 → u19[32 + 3 * s]? = some (ad (32 + 3 * s), zA K (2 * n) (((plS nb bt n cap hi pn pi (us, ro, rl) nc).2.1) s)) := fun s hs => by have h8 := hq34 s hs; rw [← hS]; exact h8
    refine q_aload_n hc 0 dX4_playRound_57 rfl ?_
    refine q_get hc 0 0 i4 hq21 rfl (by decide) f18 rfl rfl dX4_playRound_58 ?_
    refine q_callMv (As := []) (rest := []) hc (c_X0_rememberOver l D K u19 ad w h n cap ((plS nb bt n cap hi pn pi (us, ro, rl) nc).1) hi hq22 hq23 hq20 hq24 hn hcap (by have h9 := hI9.us hnc; rw [hS] at h9; exact h9)) (cwV 0 hc.1.2.2.2.2 gX4_playRound_X0_rememberOver rfl rfl rfl (by decide +kernel) ⟨Nat.le_of_ble_eq_true rfl, Nat.le_of_ble_eq_true rfl⟩) 1 hq22 rfl rfl rfl (by decide) dX4_playRound_61 ⟨Nat.zero_le _, Nat.zero_le _⟩ (fun u38 hp' => ?_)
    obtain ⟨hq40, fr41⟩ := hp'
    have hq42 := (fr41.at 0 (by omega)).trans hq21
    have hq43 := (fr41.at 1 (by omega)).trans hq22
    have hq44 := (fr41.at 2 (by omega)).trans hq23
    have hq45 := (fr41.at 3 (by omega)).trans hq20
    have hq46 := (fr41.at 5 (by omega)).trans hq25
    have hq47 := (fr41.at 6 (by omega)).trans hq26
    have hq48 := (fr41.at 7 (by omega)).trans hq27
    have hq49 := (fr41.at 8 (by omega)).trans hq28
    have hq50 := (fr41.at 9 (by omega)).trans hq29
    have hq51 := (fr41.at 10 (by omega)).trans hq30
    have hq52 := (fr41.at 29 (by omega)).trans hq31
    have hq53 : ∀ s, s < 12 → u38[30 + 3 * s]? = some (ad (30 + 3 * s), nO ad s (pn s) (((plS nb bt n cap hi pn pi (us, ro, rl) nc).2.2) s)) := fun s hs => (fr41.at (30 + 3 * s) (by omega)).trans (hq36 s hs)
    have hq54 : ∀ s, s < 12 → u38[31 + 3 * s]? = some (ad (31 + 3 * s), iN K 5 (pi s)) := fun s hs => (fr41.at (31 + 3 * s) (by omega)).trans (hq33 s hs)
    have hq55 : ∀ s, s < 12 → u38[32 + 3 * s]? = some (ad (32 + 3 * s), zA K (2 * n) (((plS nb bt n cap hi pn pi (us, ro, rl) nc).2.1) s)) := fun s hs => (fr41.at (32 + 3 * s) (by omega)).trans (hq37 s hs)
    refine q_aload_n hc 0 dX4_playRound_64 rfl ?_
    refine q_dup hc dX4_playRound_65 rfl ?_
    refine q_get hc 0 5 i4 hq42 rfl (by decide) f54 rfl rfl dX4_playRound_66 ?_
    refine q_iconstN hc 1 dX4_playRound_69 rfl ?_
    refine q_iaddN hc dX4_playRound_70 ?_
    refine q_put (ty := .int) hc 0 5 i4 tyX4 tyX4_ok nmX4 hq42 rfl (by decide) f54 rfl rfl (by decide +kernel) rfl rfl (Nat.le_of_ble_eq_true rfl) rfl dX4_playRound_71 (fun u56 hn' hf' => ?_)
    have hq57 : u56[0]? = some (ad 0, .inr (4, [.ref (ad 1), .ref (ad 7), .ref (ad 11), .ref (ad 29), .int (iZ ((nc : Nat) : Int)), .int (iZ ((rc + 1 : Nat) : Int))])) := hn'
    have hq58 := (hf' 1 (by omega)).trans hq43
    have hq59 := (hf' 2 (by omega)).trans hq44
    have hq60 := (hf' 3 (by omega)).trans hq45
    have hq61 := (hf' 4 (by omega)).trans hq40
    have hq62 := (hf' 5 (by omega)).trans hq46
    have hq63 := (hf' 6 (by omega)).trans hq47
    have hq64 := (hf' 7 (by omega)).trans hq48
    have hq65 := (hf' 8 (by omega)).trans hq49
    have hq66 := (hf' 9 (by omega)).trans hq50
    have hq67 := (hf' 10 (by omega)).trans hq51
    have hq68 := (hf' 29 (by omega)).trans hq52
    have hq69 : ∀ s, s < 12 → u56[30 + 3 * s]? = some (ad (30 + 3 * s), nO ad s (pn s) (((plS nb bt n cap hi pn pi (us, ro, rl) nc).2.2) s)) := fun s hs => (hf' (30 + 3 * s) (by omega)).trans (hq53 s hs)
    have hq70 : ∀ s, s < 12 → u56[31 + 3 * s]? = some (ad (31 + 3 * s), iN K 5 (pi s)) := fun s hs => (hf' (31 + 3 * s) (by omega)).trans (hq54 s hs)
    have hq71 : ∀ s, s < 12 → u56[32 + 3 * s]? = some (ad (32 + 3 * s), zA K (2 * n) (((plS nb bt n cap hi pn pi (us, ro, rl) nc).2.1) s)) := fun s hs => (hf' (32 + 3 * s) (by omega)).trans (hq55 s hs)
    have fr72 := Fr.one hf'
    exact q_vretM hc (⟨_, _, _, hq60, hq61, hq57, hq65, hq66, hq67, hq69, hq71, ((((fr0.trans fr8 (fun _ _ => by omega)).trans fr35 (fun _ _ => by omega)).trans fr41 (fun _ _ => by omega)).trans fr72 (fun _ _ => by omega))⟩) hr hlk dX4_playRound_74
  · refine q_aload_n hc 0 dX4_playRound_10 rfl ?_
    refine q_get hc 0 3 i4 hq9 rfl (by decide) f40 rfl rfl dX4_playRound_11 ?_
    refine q_iload_n hc 1 dX4_playRound_14 rfl ?_
    refine q_nald (j := i) hc 29 hq16 rfl (by omega) (by omega) dX4_playRound_15 ?_
    refine V.topv (show _ = Value.ref (ad (30 + 3 * i)) from rfl) ?_
    refine q_astore_n hc [(2, .ref (ad (30 + 3 * i))), (0, .ref (ad 0)), (1, .int (iZ ((i : Nat) : Int)))] dX4_playRound_16 rfl (by decide) rfl ?_
    have hus9 := hI9.us hnc; have hrl9 := hI9.2.2 i (by omega)
    refine q_aload_n hc 0 dX4_playRound_17 rfl ?_
    have hq73 : u1[30 + 3 * i]? = some (ad (30 + 3 * i), nO ad i (pn i) (L i)) := hq6 i (by omega)
    refine q_callPz (As := []) (rest := []) hc (c_X3_isRoutable l D K u1 ad i (pn i) (L i) hq73 (hpn i (by omega))) (cwV 0 hc.1.2.2.2.2 gX4_playRound_X3_isRoutable rfl rfl rfl (by decide +kernel) ⟨Nat.le_of_ble_eq_true rfl, Nat.le_of_ble_eq_true rfl⟩) (30 + 3 * i) hq73 rfl rfl rfl (by decide) dX4_playRound_18 ⟨Nat.zero_le _, Nat.zero_le _⟩ ?_
    refine q_ifz_eq hc 51 dX4_playRound_21 (by decide) (fun c76 => ?_) (fun c76 => ?_)
    · refine q_iincN (q := 2) hc 1 [(1, .int (iZ ((i + 1 : Nat) : Int))), (2, .ref (ad (30 + 3 * i))), (0, .ref (ad 0))] dX4_playRound_51 rfl rfl (by decide) rfl ?_
      refine q_goto hc 2 dX4_playRound_54 (by decide) ?_
      refine V.sub [2, 0] rfl ?_
      exact ih2 (i + 1, U, O, L, cv, dv, tv) _ (by omega) ⟨(by omega), (by rw [plS_s, if_neg (by rw [← hS]; unfold ndB; rw [c76]; simp)]; exact hS), (hI9), (hq2), (hq3), (hq4), (hq5), (hq6), (hq7), (fr8)⟩
    · refine q_aload_n hc 0 dX4_playRound_24 rfl ?_
      refine q_callPz (As := []) (rest := []) hc (c_X3_isRouted l D K u1 ad i (pn i) (L i) hq73 hrl9) (cwV 0 hc.1.2.2.2.2 gX4_playRound_X3_isRouted rfl rfl rfl (by decide +kernel) ⟨Nat.le_of_ble_eq_true rfl, Nat.le_of_ble_eq_true rfl⟩) (30 + 3 * i) hq73 rfl rfl rfl (by decide) dX4_playRound_25 ⟨Nat.zero_le _, Nat.zero_le _⟩ ?_
      refine q_ifz_eq hc 45 dX4_playRound_28 (by decide) (fun c79 => ?_) (fun c79 => ?_)
      · refine q_aload_n hc 1 dX4_playRound_45 rfl ?_
        refine q_aload_n hc 0 dX4_playRound_46 rfl ?_
        have hq80 : u1[31 + 3 * i]? = some (ad (31 + 3 * i), iN K 5 (pi i)) := hq17 i (by omega)
        have hq81 : u1[32 + 3 * i]? = some (ad (32 + 3 * i), zA K (2 * n) (O i)) := hq7 i (by omega)
        refine q_callMl (As := [.ref (ad (30 + 3 * i))]) (rest := []) hc (c_X4_leadAnew l D K u1 ad nc rc i (pn i) (L i) w h n cap U hi cv dv (pi i) tv (O i) _ _ hq9 hq10 hq11 hq2 hq12 hq13 hq14 hq15 hq3 hq4 hq5 hq73 hq80 hq81 hn hNB hcap hus9 hhi (hpn i (by omega)) (of_decide_eq_true c76) (fun k hk => hpin i k (by omega) hk) hrl9 (hI9.uro (by omega)) (hI9.2.1 i (by omega))) (cwV 1 hc.1.2.2.2.2 gX4_playRound_X4_leadAnew rfl rfl rfl (by decide +kernel) ⟨Nat.le_of_ble_eq_true rfl, Nat.le_of_ble_eq_true rfl⟩) 0 hq9 rfl rfl rfl (by decide) dX4_playRound_47 ⟨Nat.zero_le _, Nat.zero_le _⟩ (fun r83 u82 hp' => ?_)
        obtain ⟨hr91, hq84, hq85, hq86, hq87, hq88, hq89, fr90⟩ := hp'
        have hq92 := (fr90.at 0 (by omega)).trans hq9
        have hq93 := (fr90.at 1 (by omega)).trans hq10
        have hq94 := (fr90.at 2 (by omega)).trans hq11
        have hq95 := (fr90.at 4 (by omega)).trans hq12
        have hq96 := (fr90.at 5 (by omega)).trans hq13
        have hq97 := (fr90.at 6 (by omega)).trans hq14
        have hq98 := (fr90.at 7 (by omega)).trans hq15
        have hq99 := (fr90.at 29 (by omega)).trans hq16
        have hq100 : ∀ s, s < 12 → u82[30 + 3 * s]? = some (ad (30 + 3 * s), nO ad s ((va_up pn i (pn i)) s) ((va_up L i ((cnt (jn nb bt (coF cap (sbU U (O i)) hi) (pi i) n (pn i) ((pn i) - 1) (diS ((pi i) 0)) (trS ((pi i) 0)) (fun _ => false)).2.2 (2 * n) : Nat) : Int)) s)) := fun s hs => by
          by_cases e9 : s = i
          · rw [e9]; simp only [va_up_self]; exact hq89
          · have h8 := (fr90.at (30 + 3 * s) (by omega)).trans (hq6 s hs)
            try simp only [va_up_ne _ _ e9] at h8
            simp only [va_up_ne _ _ e9]; exact h8
        have hq101 : ∀ s, s < 12 → u82[31 + 3 * s]? = some (ad (31 + 3 * s), iN K 5 (pi s)) := fun s hs => (fr90.at (31 + 3 * s) (by omega)).trans (hq17 s hs)
        have hq102 : ∀ s, s < 12 → u82[32 + 3 * s]? = some (ad (32 + 3 * s), zA K (2 * n) ((va_up O i ((jn nb bt (coF cap (sbU U (O i)) hi) (pi i) n (pn i) ((pn i) - 1) (diS ((pi i) 0)) (trS ((pi i) 0)) (fun _ => false)).2.2)) s)) := fun s hs => by
          by_cases e9 : s = i
          · rw [e9]; simp only [va_up_self]; exact hq88
          · have h8 := (fr90.at (32 + 3 * s) (by omega)).trans (hq7 s hs)
            try simp only [va_up_ne _ _ e9] at h8
            simp only [va_up_ne _ _ e9]; exact h8
        subst hr91
        refine q_pop2 hc dX4_playRound_50 rfl ?_
        refine q_iincN (q := 2) hc 1 [(1, .int (iZ ((i + 1 : Nat) : Int))), (2, .ref (ad (30 + 3 * i))), (0, .ref (ad 0))] dX4_playRound_51 rfl rfl (by decide) rfl ?_
        refine q_goto hc 2 dX4_playRound_54 (by decide) ?_
        have hq103 : ∀ s, s < 12 → u82[30 + 3 * s]? = some (ad (30 + 3 * s), nO ad s (pn s) ((va_up L i ((cnt (jn nb bt (coF cap (sbU U (O i)) hi) (pi i) n (pn i) ((pn i) - 1) (diS ((pi i) 0)) (trS ((pi i) 0)) (fun _ => false)).2.2 (2 * n) : Nat) : Int)) s)) := fun s hs => by have h8 := hq100 s hs; rw [va_up_id] at h8; exact h8
        refine V.sub [2, 0] rfl ?_
        exact ih2 (i + 1, adU (sbU U (O i)) (jn nb bt (coF cap (sbU U (O i)) hi) (pi i) n (pn i) ((pn i) - 1) (diS ((pi i) 0)) (trS ((pi i) 0)) (fun _ => false)).2.2, va_up O i ((jn nb bt (coF cap (sbU U (O i)) hi) (pi i) n (pn i) ((pn i) - 1) (diS ((pi i) 0)) (trS ((pi i) 0)) (fun _ => false)).2.2), va_up L i ((cnt (jn nb bt (coF cap (sbU U (O i)) hi) (pi i) n (pn i) ((pn i) - 1) (diS ((pi i) 0)) (trS ((pi i) 0)) (fun _ => false)).2.2 (2 * n) : Nat) : Int), coF cap (sbU U (O i)) hi, (jn nb bt (coF cap (sbU U (O i)) hi) (pi i) n (pn i) ((pn i) - 1) (diS ((pi i) 0)) (trS ((pi i) 0)) (fun _ => false)).1, (jn nb bt (coF cap (sbU U (O i)) hi) (pi i) n (pn i) ((pn i) - 1) (diS ((pi i) 0)) (trS ((pi i) 0)) (fun _ => false)).2.1) _ (by omega) ⟨(by omega), (by rw [plS_s, if_pos (by rw [← hS]; unfold ndB; rw [c76, c79]; rfl), ← hS]; rfl), (hI9.ld hn (by omega) _), (hq84), (hq85), (hq86), (hq87), (hq103), (hq102), ((fr8.trans fr90 (fun _ _ => by omega)))⟩
      · refine q_aload_n hc 1 dX4_playRound_31 rfl ?_
        refine q_get hc 0 0 i4 hq9 rfl (by decide) f18 rfl rfl dX4_playRound_32 ?_
        refine q_aload_n hc 0 dX4_playRound_35 rfl ?_
        refine q_get hc (30 + 3 * i) 1 i3 hq73 rfl (by decide) f136 rfl rfl dX4_playRound_36 ?_
        have hq104 : u1[32 + 3 * i]? = some (ad (32 + 3 * i), zA K (2 * n) (O i)) := hq7 i (by omega)
        refine q_callPz (As := [.ref (ad (32 + 3 * i))]) (rest := []) hc (c_X0_isAnyOver l D K u1 ad i w h n cap U (O i) hq10 hq11 hq2 hq104 hn hcap hus9) (cwV 1 hc.1.2.2.2.2 gX4_playRound_X0_isAnyOver rfl rfl rfl (by decide +kernel) ⟨Nat.le_of_ble_eq_true rfl, Nat.le_of_ble_eq_true rfl⟩) 1 hq10 rfl rfl rfl (by decide) dX4_playRound_39 ⟨Nat.zero_le _, Nat.zero_le _⟩ ?_
        refine q_ifz_eq hc 51 dX4_playRound_42 (by decide) (fun c107 => ?_) (fun c107 => ?_)
        · refine q_iincN (q := 2) hc 1 [(1, .int (iZ ((i + 1 : Nat) : Int))), (2, .ref (ad (30 + 3 * i))), (0, .ref (ad 0))] dX4_playRound_51 rfl rfl (by decide) rfl ?_
          refine q_goto hc 2 dX4_playRound_54 (by decide) ?_
          refine V.sub [2, 0] rfl ?_
          exact ih2 (i + 1, U, O, L, cv, dv, tv) _ (by omega) ⟨(by omega), (by rw [plS_s, if_neg (by rw [← hS]; unfold ndB; rw [c76, c79, c107]; decide)]; exact hS), (hI9), (hq2), (hq3), (hq4), (hq5), (hq6), (hq7), (fr8)⟩
        · refine q_aload_n hc 1 dX4_playRound_45 rfl ?_
          refine q_aload_n hc 0 dX4_playRound_46 rfl ?_
          have hq108 : u1[31 + 3 * i]? = some (ad (31 + 3 * i), iN K 5 (pi i)) := hq17 i (by omega)
          refine q_callMl (As := [.ref (ad (30 + 3 * i))]) (rest := []) hc (c_X4_leadAnew l D K u1 ad nc rc i (pn i) (L i) w h n cap U hi cv dv (pi i) tv (O i) _ _ hq9 hq10 hq11 hq2 hq12 hq13 hq14 hq15 hq3 hq4 hq5 hq73 hq108 hq104 hn hNB hcap hus9 hhi (hpn i (by omega)) (of_decide_eq_true c76) (fun k hk => hpin i k (by omega) hk) hrl9 (hI9.uro (by omega)) (hI9.2.1 i (by omega))) (cwV 1 hc.1.2.2.2.2 gX4_playRound_X4_leadAnew rfl rfl rfl (by decide +kernel) ⟨Nat.le_of_ble_eq_true rfl, Nat.le_of_ble_eq_true rfl⟩) 0 hq9 rfl rfl rfl (by decide) dX4_playRound_47 ⟨Nat.zero_le _, Nat.zero_le _⟩ (fun r110 u109 hp' => ?_)
          obtain ⟨hr118, hq111, hq112, hq113, hq114, hq115, hq116, fr117⟩ := hp'
          have hq119 := (fr117.at 0 (by omega)).trans hq9
          have hq120 := (fr117.at 1 (by omega)).trans hq10
          have hq121 := (fr117.at 2 (by omega)).trans hq11
          have hq122 := (fr117.at 4 (by omega)).trans hq12
          have hq123 := (fr117.at 5 (by omega)).trans hq13
          have hq124 := (fr117.at 6 (by omega)).trans hq14
          have hq125 := (fr117.at 7 (by omega)).trans hq15
          have hq126 := (fr117.at 29 (by omega)).trans hq16
          have hq127 : ∀ s, s < 12 → u109[30 + 3 * s]? = some (ad (30 + 3 * s), nO ad s ((va_up pn i (pn i)) s) ((va_up L i ((cnt (jn nb bt (coF cap (sbU U (O i)) hi) (pi i) n (pn i) ((pn i) - 1) (diS ((pi i) 0)) (trS ((pi i) 0)) (fun _ => false)).2.2 (2 * n) : Nat) : Int)) s)) := fun s hs => by
            by_cases e9 : s = i
            · rw [e9]; simp only [va_up_self]; exact hq116
            · have h8 := (fr117.at (30 + 3 * s) (by omega)).trans (hq6 s hs)
              try simp only [va_up_ne _ _ e9] at h8
              simp only [va_up_ne _ _ e9]; exact h8
          have hq128 : ∀ s, s < 12 → u109[31 + 3 * s]? = some (ad (31 + 3 * s), iN K 5 (pi s)) := fun s hs => (fr117.at (31 + 3 * s) (by omega)).trans (hq17 s hs)
          have hq129 : ∀ s, s < 12 → u109[32 + 3 * s]? = some (ad (32 + 3 * s), zA K (2 * n) ((va_up O i ((jn nb bt (coF cap (sbU U (O i)) hi) (pi i) n (pn i) ((pn i) - 1) (diS ((pi i) 0)) (trS ((pi i) 0)) (fun _ => false)).2.2)) s)) := fun s hs => by
            by_cases e9 : s = i
            · rw [e9]; simp only [va_up_self]; exact hq115
            · have h8 := (fr117.at (32 + 3 * s) (by omega)).trans (hq7 s hs)
              try simp only [va_up_ne _ _ e9] at h8
              simp only [va_up_ne _ _ e9]; exact h8
          subst hr118
          refine q_pop2 hc dX4_playRound_50 rfl ?_
          refine q_iincN (q := 2) hc 1 [(1, .int (iZ ((i + 1 : Nat) : Int))), (2, .ref (ad (30 + 3 * i))), (0, .ref (ad 0))] dX4_playRound_51 rfl rfl (by decide) rfl ?_
          refine q_goto hc 2 dX4_playRound_54 (by decide) ?_
          have hq130 : ∀ s, s < 12 → u109[30 + 3 * s]? = some (ad (30 + 3 * s), nO ad s (pn s) ((va_up L i ((cnt (jn nb bt (coF cap (sbU U (O i)) hi) (pi i) n (pn i) ((pn i) - 1) (diS ((pi i) 0)) (trS ((pi i) 0)) (fun _ => false)).2.2 (2 * n) : Nat) : Int)) s)) := fun s hs => by have h8 := hq127 s hs; rw [va_up_id] at h8; exact h8
          refine V.sub [2, 0] rfl ?_
          exact ih2 (i + 1, adU (sbU U (O i)) (jn nb bt (coF cap (sbU U (O i)) hi) (pi i) n (pn i) ((pn i) - 1) (diS ((pi i) 0)) (trS ((pi i) 0)) (fun _ => false)).2.2, va_up O i ((jn nb bt (coF cap (sbU U (O i)) hi) (pi i) n (pn i) ((pn i) - 1) (diS ((pi i) 0)) (trS ((pi i) 0)) (fun _ => false)).2.2), va_up L i ((cnt (jn nb bt (coF cap (sbU U (O i)) hi) (pi i) n (pn i) ((pn i) - 1) (diS ((pi i) 0)) (trS ((pi i) 0)) (fun _ => false)).2.2 (2 * n) : Nat) : Int), coF cap (sbU U (O i)) hi, (jn nb bt (coF cap (sbU U (O i)) hi) (pi i) n (pn i) ((pn i) - 1) (diS ((pi i) 0)) (trS ((pi i) 0)) (fun _ => false)).1, (jn nb bt (coF cap (sbU U (O i)) hi) (pi i) n (pn i) ((pn i) - 1) (diS ((pi i) 0)) (trS ((pi i) 0)) (fun _ => false)).2.1) _ (by omega) ⟨(by omega), (by rw [plS_s, if_pos (by rw [← hS]; unfold ndB; rw [c76, c79, c107]; rfl), ← hS]; rfl), (hI9.ld hn (by omega) _), (hq111), (hq112), (hq113), (hq114), (hq130), (hq129), ((fr8.trans fr117 (fun _ _ => by omega)))⟩
