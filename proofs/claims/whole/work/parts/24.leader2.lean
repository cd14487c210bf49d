
set_option maxRecDepth 100000 in
set_option maxHeartbeats 4000000 in
theorem c_X1_spreadDistances (l : Launch) (D : va_G) (K : Nat → ClassId) (ws : va_W) (ad : Nat → Nat) (w h n : Nat) (di co : Nat → Nat) (nb bt : Nat → Option Nat) (h1 : ws[1]? = some (ad 1, gO ad w h n)) (h5 : ws[5]? = some (ad 5, iA K (4 * n) (fun k => oZ (nb k)))) (h6 : ws[6]? = some (ad 6, iA K (4 * n) (fun k => oZ (bt k)))) (h7 : ws[7]? = some (ad 7, lO ad)) (h8 : ws[8]? = some (ad 8, iN K (2 * n) co)) (h9 : ws[9]? = some (ad 9, iN K n di)) (hn : n ≤ 64) (hNB : NB n nb bt) (hdi : ∀ k, di k ≤ 1000000000) (hco : ∀ k, k < 2 * n → co k ≤ 6000) : MMv l yX1_spreadDistances wsX1_spreadDistances ({ frames := 2, cells := 0, slots := 0, locals := 45 }) D K ws [.ref (ad 7)] (fun u => (u[9]? = some (ad 9, iN K n (itP nb bt co n di n))) ∧ (Fr (fun j => j = 9) ws u)) := by
  refine q_entMv RX1 [(0, .ref (ad 7))] (by decide) rfl rfl (Nat.le_of_ble_eq_true rfl) rfl ?_
  intro p e s m args below meth c hc hr hlk
  have i1 : ∀ w ∈ u_ws RX1 TX1 4, w ∈ wsX1_spreadDistances := by decide +kernel
  have f9 := hc.1.2.2.2.2 (.fieldLink RX1 9 "GlobalRoutes$Leader" "grid" "LGlobalRoutes$Grid;") (by decide +kernel)
  have i0 : ∀ w ∈ u_ws RX0 TX0 9, w ∈ wsX1_spreadDistances := by decide +kernel
  have f25 := hc.1.2.2.2.2 (.fieldLink RX1 25 "GlobalRoutes$Grid" "cells" "I") (by decide +kernel)
  have fr0 : Fr (fun j => j = 9) ws ws := Fr.rfl
  refine q_iconstN hc 1 dX1_spreadDistances_0 rfl ?_
  refine q_istore_n hc [(1, .int (iZ ((1 : Nat) : Int))), (0, .ref (ad 7))] dX1_spreadDistances_1 rfl (by decide) rfl ?_
  refine q_iconstN hc 0 dX1_spreadDistances_2 rfl ?_
  refine q_istore_n hc [(2, .int (iZ ((0 : Nat) : Int))), (1, .int (iZ ((1 : Nat) : Int))), (0, .ref (ad 7))] dX1_spreadDistances_3 rfl (by decide) rfl ?_
  refine V.sub [2, 1, 0] rfl ?_
  refine V.loop (α := Nat × Bool) (fun x => n - x.1) (fun x u => (x.1 ≤ n) ∧ (x.2 = false → prD nb bt co n (itP nb bt co n di x.1) = itP nb bt co n di x.1) ∧ (u[9]? = some (ad 9, iN K n (itP nb bt co n di x.1))) ∧ (Fr (fun j => j = 9) ws u)) (fun x => [(0, .ref (ad 7)), (1, .int (iZ (bZ x.2))), (2, .int (iZ ((x.1 : Nat) : Int)))]) (0, true) ⟨(Nat.zero_le _), (fun h => by cases h), (h9), (Fr.rfl)⟩ rfl ?_
  intro x ih4 u1 hI
  obtain ⟨k, fl⟩ := x
  try dsimp only at ih4 hI ⊢
  obtain ⟨hk, hfl, hq2, fr3⟩ := hI
  have hq4 := (fr3.at 1 (by omega)).trans h1
  have hq5 := (fr3.at 5 (by omega)).trans h5
  have hq6 := (fr3.at 6 (by omega)).trans h6
  have hq7 := (fr3.at 7 (by omega)).trans h7
  have hq8 := (fr3.at 8 (by omega)).trans h8
  refine q_iload_n hc 1 dX1_spreadDistances_4 rfl ?_
  refine q_ifz_eq hc 102 dX1_spreadDistances_5 (by decide) (fun c9 => ?_) (fun c9 => ?_)
  · refine q_norm_iN (g := itP nb bt co n di n) hc 9 hq2 (fun k9 _ => by rw [itP_stop (hfl c9) n hk]) (fun u10 hn' hf' => ?_)
    have hq11 : u10[9]? = some (ad 9, iN K n (itP nb bt co n di n)) := hn'
    have hq12 := (hf' 1 (by omega)).trans hq4
    have hq13 := (hf' 5 (by omega)).trans hq5
    have hq14 := (hf' 6 (by omega)).trans hq6
    have hq15 := (hf' 7 (by omega)).trans hq7
    have hq16 := (hf' 8 (by omega)).trans hq8
    have fr17 := Fr.one hf'
    exact q_vretM hc (⟨hq11, ((fr0.trans fr3 (fun _ _ => by omega)).trans fr17 (fun _ _ => by omega))⟩) hr hlk dX1_spreadDistances_102
  · refine q_iload_n hc 2 dX1_spreadDistances_8 rfl ?_
    refine q_aload_n hc 0 dX1_spreadDistances_9 rfl ?_
    refine q_get hc 7 0 i1 hq7 rfl (by decide) f9 rfl rfl dX1_spreadDistances_10 ?_
    refine q_get hc 1 2 i0 hq4 rfl (by decide) f25 rfl rfl dX1_spreadDistances_13 ?_
    refine q_icmpN_ge hc 102 dX1_spreadDistances_16 (by decide) (by omega) (by omega) (fun c18 => ?_) (fun c18 => ?_)
    · refine q_norm_iN (g := itP nb bt co n di n) hc 9 hq2 (fun k9 _ => by rw [show k = n by omega]) (fun u19 hn' hf' => ?_)
      have hq20 : u19[9]? = some (ad 9, iN K n (itP nb bt co n di n)) := hn'
      have hq21 := (hf' 1 (by omega)).trans hq4
      have hq22 := (hf' 5 (by omega)).trans hq5
      have hq23 := (hf' 6 (by omega)).trans hq6
      have hq24 := (hf' 7 (by omega)).trans hq7
      have hq25 := (hf' 8 (by omega)).trans hq8
      have fr26 := Fr.one hf'
      exact q_vretM hc (⟨hq20, ((fr0.trans fr3 (fun _ _ => by omega)).trans fr26 (fun _ _ => by omega))⟩) hr hlk dX1_spreadDistances_102
    · refine q_iconstN hc 0 dX1_spreadDistances_19 rfl ?_
      refine q_istore_n hc [(1, .int (iZ ((0 : Nat) : Int))), (0, .ref (ad 7)), (2, .int (iZ ((k : Nat) : Int)))] dX1_spreadDistances_20 rfl (by decide) rfl ?_
      refine q_iconstN hc 0 dX1_spreadDistances_21 rfl ?_
      refine q_istore_n hc [(3, .int (iZ ((0 : Nat) : Int))), (1, .int (iZ ((0 : Nat) : Int))), (0, .ref (ad 7)), (2, .int (iZ ((k : Nat) : Int)))] dX1_spreadDistances_22 rfl (by decide) rfl ?_
      refine V.sub [2, 1, 3, 0] rfl ?_
      refine V.loop (α := Nat × Bool) (fun x => n - x.1) (fun x u => (x.1 ≤ n) ∧ (x.2 = false → swU nb bt co (itP nb bt co n di k) x.1 = itP nb bt co n di k) ∧ (u[9]? = some (ad 9, iN K n (swU nb bt co (itP nb bt co n di k) x.1))) ∧ (Fr (fun j => j = 9) u1 u)) (fun x => [(0, .ref (ad 7)), (1, .int (iZ (bZ x.2))), (2, .int (iZ ((k : Nat) : Int))), (3, .int (iZ ((x.1 : Nat) : Int)))]) (0, false) ⟨(Nat.zero_le _), (fun _ => rfl), (hq2), (Fr.rfl)⟩ rfl ?_
      intro x ih23 u27 hI
      obtain ⟨i, fm⟩ := x
      try dsimp only at ih23 hI ⊢
      obtain ⟨hi0, hfm, hq28, fr29⟩ := hI
      have hq30 := (fr29.at 1 (by omega)).trans hq4
      have hq31 := (fr29.at 5 (by omega)).trans hq5
      have hq32 := (fr29.at 6 (by omega)).trans hq6
      have hq33 := (fr29.at 7 (by omega)).trans hq7
      have hq34 := (fr29.at 8 (by omega)).trans hq8
      refine q_iload_n hc 3 dX1_spreadDistances_23 rfl ?_
      refine q_aload_n hc 0 dX1_spreadDistances_24 rfl ?_
      refine q_get hc 7 0 i1 hq33 rfl (by decide) f9 rfl rfl dX1_spreadDistances_25 ?_
      refine q_get hc 1 2 i0 hq30 rfl (by decide) f25 rfl rfl dX1_spreadDistances_28 ?_
      refine q_icmpN_ge hc 58 dX1_spreadDistances_31 (by decide) (by omega) (by omega) (fun c35 => ?_) (fun c35 => ?_)
      · obtain rfl : n = i := by omega
        refine q_aload_n hc 0 dX1_spreadDistances_58 rfl ?_
        refine q_get hc 7 0 i1 hq33 rfl (by decide) f9 rfl rfl dX1_spreadDistances_59 ?_
        refine q_get hc 1 2 i0 hq30 rfl (by decide) f25 rfl rfl dX1_spreadDistances_62 ?_
        refine q_iconstN hc 1 dX1_spreadDistances_65 rfl ?_
        refine q_isub hc dX1_spreadDistances_66 ?_
        refine V.topi (show _ = ((n : Nat) : Int) - 1 - ((0 : Nat) : Int) from by omega) ?_
        refine q_istore_n hc [(3, .int (iZ (((n : Nat) : Int) - 1 - ((0 : Nat) : Int)))), (0, .ref (ad 7)), (1, .int (iZ (bZ fm))), (2, .int (iZ ((k : Nat) : Int)))] dX1_spreadDistances_67 rfl (by decide) rfl ?_
        refine V.sub [1, 2, 3, 0] rfl ?_
        refine V.loop (α := Nat × Bool) (fun x => n - x.1) (fun x u => (x.1 ≤ n) ∧ (x.2 = false → swD nb bt co n (swU nb bt co (itP nb bt co n di k) n) x.1 = itP nb bt co n di k) ∧ (u[9]? = some (ad 9, iN K n (swD nb bt co n (swU nb bt co (itP nb bt co n di k) n) x.1))) ∧ (Fr (fun j => j = 9) u27 u)) (fun x => [(0, .ref (ad 7)), (1, .int (iZ (bZ x.2))), (2, .int (iZ ((k : Nat) : Int))), (3, .int (iZ (((n : Nat) : Int) - 1 - ((x.1 : Nat) : Int))))]) (0, fm) ⟨(Nat.zero_le _), (hfm), (hq28), (Fr.rfl)⟩ rfl ?_
        intro x ih68 u36 hI
        obtain ⟨j, fd⟩ := x
        try dsimp only at ih68 hI ⊢
        obtain ⟨hj, hfd, hq37, fr38⟩ := hI
        have hq39 := (fr38.at 1 (by omega)).trans hq30
        have hq40 := (fr38.at 5 (by omega)).trans hq31
        have hq41 := (fr38.at 6 (by omega)).trans hq32
        have hq42 := (fr38.at 7 (by omega)).trans hq33
        have hq43 := (fr38.at 8 (by omega)).trans hq34
        refine q_iload_n hc 3 dX1_spreadDistances_68 rfl ?_
        refine q_if_lt hc 96 dX1_spreadDistances_69 (by decide) (by omega) (fun c44 => ?_) (fun c44 => ?_)
        · obtain rfl : n = j := by omega
          refine q_iincN (q := 2) hc 1 [(2, .int (iZ ((k + 1 : Nat) : Int))), (0, .ref (ad 7)), (1, .int (iZ (bZ fd))), (3, .int (iZ (((n : Nat) : Int) - 1 - ((n : Nat) : Int))))] dX1_spreadDistances_96 rfl rfl (by decide) rfl ?_
          refine q_goto hc 4 dX1_spreadDistances_99 (by decide) ?_
          refine V.sub [1, 2, 0] rfl ?_
          exact ih4 (k + 1, fd) _ (by omega) ⟨(by omega), (fun h => by have e9 := hfd h; show prD nb bt co n (prD nb bt co n (itP nb bt co n di k)) = prD nb bt co n (itP nb bt co n di k); rw [show prD nb bt co n (itP nb bt co n di k) = itP nb bt co n di k from e9]; exact e9), (hq37), (((fr3.trans fr29 (fun _ _ => by omega)).trans fr38 (fun _ _ => by omega)))⟩
        · refine q_aload_n hc 0 dX1_spreadDistances_72 rfl ?_
          refine q_iload_n hc 3 dX1_spreadDistances_73 rfl ?_
          refine V.topi (show _ = ((n - 1 - j : Nat) : Int) from by omega) ?_
          refine q_callMi (As := [.int (iZ ((n - 1 - j : Nat) : Int))]) (rest := []) hc (c_X1_lowerDistance l D K u36 ad (n - 1 - j) w h n (swD nb bt co n (swU nb bt co (itP nb bt co n di k) n) j) co _ _ hq39 hq40 hq41 hq42 hq43 hq37 hn (by omega) hNB (swD_bd (swU_bd (itP_bd hdi k) n) j) hco) (cwV 1 hc.1.2.2.2.2 gX1_spreadDistances_X1_lowerDistance rfl rfl rfl (by decide +kernel) ⟨Nat.le_of_ble_eq_true rfl, Nat.le_of_ble_eq_true rfl⟩) 7 hq42 rfl rfl rfl (by decide) dX1_spreadDistances_74 ⟨Nat.zero_le _, Nat.zero_le _⟩ (fun r46 u45 hp' => ?_)
          obtain ⟨hr49, hq47, fr48⟩ := hp'
          have hq50 := (fr48.at 1 (by omega)).trans hq39
          have hq51 := (fr48.at 5 (by omega)).trans hq40
          have hq52 := (fr48.at 6 (by omega)).trans hq41
          have hq53 := (fr48.at 7 (by omega)).trans hq42
          have hq54 := (fr48.at 8 (by omega)).trans hq43
          subst hr49
          refine q_ifz_ne hc 84 dX1_spreadDistances_77 (by decide) (fun c55 => ?_) (fun c55 => ?_)
          · refine q_iconstN hc 1 dX1_spreadDistances_84 rfl ?_
            refine q_goto hc 89 dX1_spreadDistances_85 (by decide) ?_
            refine q_istore_n hc [(1, .int (iZ ((1 : Nat) : Int))), (0, .ref (ad 7)), (2, .int (iZ ((k : Nat) : Int))), (3, .int (iZ (((n : Nat) : Int) - 1 - ((j : Nat) : Int))))] dX1_spreadDistances_89 rfl (by decide) rfl ?_
            refine q_iinc (q := 3) hc [(3, .int (iZ (((n : Nat) : Int) - 1 - ((j : Nat) : Int) + (-1)))), (1, .int (iZ ((1 : Nat) : Int))), (0, .ref (ad 7)), (2, .int (iZ ((k : Nat) : Int)))] dX1_spreadDistances_90 rfl (by decide) rfl ?_
            refine q_goto hc 68 dX1_spreadDistances_93 (by decide) ?_
            refine V.lve (show ([(3, .int (iZ (((n : Nat) : Int) - 1 - ((j : Nat) : Int) + (-1)))), (1, .int (iZ ((1 : Nat) : Int))), (0, .ref (ad 7)), (2, .int (iZ ((k : Nat) : Int)))] : List (Nat × Value)) = [(3, .int (iZ (((n : Nat) : Int) - 1 - ((j + 1 : Nat) : Int)))), (1, .int (iZ ((1 : Nat) : Int))), (0, .ref (ad 7)), (2, .int (iZ ((k : Nat) : Int)))] from by rw [show (((n : Nat) : Int) - 1 - ((j : Nat) : Int) + (-1) : Int) = ((n : Nat) : Int) - 1 - ((j + 1 : Nat) : Int) from by omega]) ?_
            refine V.sub [2, 1, 3, 0] rfl ?_
            exact ih68 (j + 1, true) _ (by omega) ⟨(by omega), (fun h => by cases h), (hq47), ((fr38.trans fr48 (fun _ _ => by omega)))⟩
          · refine q_iload_n hc 1 dX1_spreadDistances_80 rfl ?_
            refine q_ifz_eq hc 88 dX1_spreadDistances_81 (by decide) (fun c56 => ?_) (fun c56 => ?_)
            · refine q_iconstN hc 0 dX1_spreadDistances_88 rfl ?_
              refine q_istore_n hc [(1, .int (iZ ((0 : Nat) : Int))), (0, .ref (ad 7)), (2, .int (iZ ((k : Nat) : Int))), (3, .int (iZ (((n : Nat) : Int) - 1 - ((j : Nat) : Int))))] dX1_spreadDistances_89 rfl (by decide) rfl ?_
              refine q_iinc (q := 3) hc [(3, .int (iZ (((n : Nat) : Int) - 1 - ((j : Nat) : Int) + (-1)))), (1, .int (iZ ((0 : Nat) : Int))), (0, .ref (ad 7)), (2, .int (iZ ((k : Nat) : Int)))] dX1_spreadDistances_90 rfl (by decide) rfl ?_
              refine q_goto hc 68 dX1_spreadDistances_93 (by decide) ?_
              refine V.lve (show ([(3, .int (iZ (((n : Nat) : Int) - 1 - ((j : Nat) : Int) + (-1)))), (1, .int (iZ ((0 : Nat) : Int))), (0, .ref (ad 7)), (2, .int (iZ ((k : Nat) : Int)))] : List (Nat × Value)) = [(3, .int (iZ (((n : Nat) : Int) - 1 - ((j + 1 : Nat) : Int)))), (1, .int (iZ ((0 : Nat) : Int))), (0, .ref (ad 7)), (2, .int (iZ ((k : Nat) : Int)))] from by rw [show (((n : Nat) : Int) - 1 - ((j : Nat) : Int) + (-1) : Int) = ((n : Nat) : Int) - 1 - ((j + 1 : Nat) : Int) from by omega]) ?_
              refine V.sub [2, 1, 3, 0] rfl ?_
              exact ih68 (j + 1, false) _ (by omega) ⟨(by omega), (fun _ => by show low nb bt co (swD nb bt co n (swU nb bt co (itP nb bt co n di k) n) j) (n - 1 - j) = _; rw [low_same (of_decide_eq_false c55)]; exact hfd c56), (hq47), ((fr38.trans fr48 (fun _ _ => by omega)))⟩
            · refine q_iconstN hc 1 dX1_spreadDistances_84 rfl ?_
              refine q_goto hc 89 dX1_spreadDistances_85 (by decide) ?_
              refine q_istore_n hc [(1, .int (iZ ((1 : Nat) : Int))), (0, .ref (ad 7)), (2, .int (iZ ((k : Nat) : Int))), (3, .int (iZ (((n : Nat) : Int) - 1 - ((j : Nat) : Int))))] dX1_spreadDistances_89 rfl (by decide) rfl ?_
              refine q_iinc (q := 3) hc [(3, .int (iZ (((n : Nat) : Int) - 1 - ((j : Nat) : Int) + (-1)))), (1, .int (iZ ((1 : Nat) : Int))), (0, .ref (ad 7)), (2, .int (iZ ((k : Nat) : Int)))] dX1_spreadDistances_90 rfl (by decide) rfl ?_
              refine q_goto hc 68 dX1_spreadDistances_93 (by decide) ?_
              refine V.lve (show ([(3, .int (iZ (((n : Nat) : Int) - 1 - ((j : Nat) : Int) + (-1)))), (1, .int (iZ ((1 : Nat) : Int))), (0, .ref (ad 7)), (2, .int (iZ ((k : Nat) : Int)))] : List (Nat × Value)) = [(3, .int (iZ (((n : Nat) : Int) - 1 - ((j + 1 : Nat) : Int)))), (1, .int (iZ ((1 : Nat) : Int))), (0, .ref (ad 7)), (2, .int (iZ ((k : Nat) : Int)))] from by rw [show (((n : Nat) : Int) - 1 - ((j : Nat) : Int) + (-1) : Int) = ((n : Nat) : Int) - 1 - ((j + 1 : Nat) : Int) from by omega]) ?_
              refine V.sub [2, 1, 3, 0] rfl ?_
              exact ih68 (j + 1, true) _ (by omega) ⟨(by omega), (fun h => by cases h), (hq47), ((fr38.trans fr48 (fun _ _ => by omega)))⟩
      · refine q_aload_n hc 0 dX1_spreadDistances_34 rfl ?_
        refine q_iload_n hc 3 dX1_spreadDistances_35 rfl ?_
        refine q_callMi (As := [.int (iZ ((i : Nat) : Int))]) (rest := []) hc (c_X1_lowerDistance l D K u27 ad i w h n (swU nb bt co (itP nb bt co n di k) i) co _ _ hq30 hq31 hq32 hq33 hq34 hq28 hn (by omega) hNB (swU_bd (itP_bd hdi k) i) hco) (cwV 1 hc.1.2.2.2.2 gX1_spreadDistances_X1_lowerDistance rfl rfl rfl (by decide +kernel) ⟨Nat.le_of_ble_eq_true rfl, Nat.le_of_ble_eq_true rfl⟩) 7 hq33 rfl rfl rfl (by decide) dX1_spreadDistances_36 ⟨Nat.zero_le _, Nat.zero_le _⟩ (fun r58 u57 hp' => ?_)
        obtain ⟨hr61, hq59, fr60⟩ := hp'
        have hq62 := (fr60.at 1 (by omega)).trans hq30
        have hq63 := (fr60.at 5 (by omega)).trans hq31
        have hq64 := (fr60.at 6 (by omega)).trans hq32
        have hq65 := (fr60.at 7 (by omega)).trans hq33
        have hq66 := (fr60.at 8 (by omega)).trans hq34
        subst hr61
        refine q_ifz_ne hc 46 dX1_spreadDistances_39 (by decide) (fun c67 => ?_) (fun c67 => ?_)
        · refine q_iconstN hc 1 dX1_spreadDistances_46 rfl ?_
          refine q_goto hc 51 dX1_spreadDistances_47 (by decide) ?_
          refine q_istore_n hc [(1, .int (iZ ((1 : Nat) : Int))), (0, .ref (ad 7)), (2, .int (iZ ((k : Nat) : Int))), (3, .int (iZ ((i : Nat) : Int)))] dX1_spreadDistances_51 rfl (by decide) rfl ?_
          refine q_iincN (q := 3) hc 1 [(3, .int (iZ ((i + 1 : Nat) : Int))), (1, .int (iZ ((1 : Nat) : Int))), (0, .ref (ad 7)), (2, .int (iZ ((k : Nat) : Int)))] dX1_spreadDistances_52 rfl rfl (by decide) rfl ?_
          refine q_goto hc 23 dX1_spreadDistances_55 (by decide) ?_
          refine V.sub [2, 1, 3, 0] rfl ?_
          exact ih23 (i + 1, true) _ (by omega) ⟨(by omega), (fun h => by cases h), (hq59), ((fr29.trans fr60 (fun _ _ => by omega)))⟩
        · refine q_iload_n hc 1 dX1_spreadDistances_42 rfl ?_
          refine q_ifz_eq hc 50 dX1_spreadDistances_43 (by decide) (fun c68 => ?_) (fun c68 => ?_)
          · refine q_iconstN hc 0 dX1_spreadDistances_50 rfl ?_
            refine q_istore_n hc [(1, .int (iZ ((0 : Nat) : Int))), (0, .ref (ad 7)), (2, .int (iZ ((k : Nat) : Int))), (3, .int (iZ ((i : Nat) : Int)))] dX1_spreadDistances_51 rfl (by decide) rfl ?_
            refine q_iincN (q := 3) hc 1 [(3, .int (iZ ((i + 1 : Nat) : Int))), (1, .int (iZ ((0 : Nat) : Int))), (0, .ref (ad 7)), (2, .int (iZ ((k : Nat) : Int)))] dX1_spreadDistances_52 rfl rfl (by decide) rfl ?_
            refine q_goto hc 23 dX1_spreadDistances_55 (by decide) ?_
            refine V.sub [2, 1, 3, 0] rfl ?_
            exact ih23 (i + 1, false) _ (by omega) ⟨(by omega), (fun _ => by show low nb bt co (swU nb bt co (itP nb bt co n di k) i) i = _; rw [low_same (of_decide_eq_false c67)]; exact hfm c68), (hq59), ((fr29.trans fr60 (fun _ _ => by omega)))⟩
          · refine q_iconstN hc 1 dX1_spreadDistances_46 rfl ?_
            refine q_goto hc 51 dX1_spreadDistances_47 (by decide) ?_
            refine q_istore_n hc [(1, .int (iZ ((1 : Nat) : Int))), (0, .ref (ad 7)), (2, .int (iZ ((k : Nat) : Int))), (3, .int (iZ ((i : Nat) : Int)))] dX1_spreadDistances_51 rfl (by decide) rfl ?_
            refine q_iincN (q := 3) hc 1 [(3, .int (iZ ((i + 1 : Nat) : Int))), (1, .int (iZ ((1 : Nat) : Int))), (0, .ref (ad 7)), (2, .int (iZ ((k : Nat) : Int)))] dX1_spreadDistances_52 rfl rfl (by decide) rfl ?_
            refine q_goto hc 23 dX1_spreadDistances_55 (by decide) ?_
            refine V.sub [2, 1, 3, 0] rfl ?_
            exact ih23 (i + 1, true) _ (by omega) ⟨(by omega), (fun h => by cases h), (hq59), ((fr29.trans fr60 (fun _ _ => by omega)))⟩

set_option maxRecDepth 100000 in
set_option maxHeartbeats 4000000 in
theorem c_X1_nearestPin (l : Launch) (D : va_G) (K : Nat → ClassId) (ws : va_W) (ad : Nat → Nat) (t : Nat) (n : Nat) (pn : Nat) (rl : Int) (di pi : Nat → Nat) (tr : Nat → Bool) (h7 : ws[7]? = some (ad 7, lO ad)) (h9 : ws[9]? = some (ad 9, iN K n di)) (h10 : ws[10]? = some (ad 10, zA K n tr)) (hno : ws[30 + 3 * t]? = some (ad (30 + 3 * t), nO ad t pn rl)) (hpi : ws[31 + 3 * t]? = some (ad (31 + 3 * t), iN K 5 pi)) (hn : n ≤ 64) (hpn : pn ≤ 5) (hpin : ∀ k, k < pn → pi k < n) (hdi : ∀ k, di k ≤ 1000000000) : MPi l yX1_nearestPin wsX1_nearestPin ({ frames := 0, cells := 0, slots := 0, locals := 0 }) D K ws [.ref (ad 7), .ref (ad (30 + 3 * t))] (fun r => r = (iZ (oZ (nrP tr di pi pn)))) := by
  refine q_entPi RX1 [(0, .ref (ad 7)), (1, .ref (ad (30 + 3 * t)))] (by decide) rfl rfl (Nat.le_of_ble_eq_true rfl) rfl ?_
  intro p e s m args below meth c hc hr hlk
  have i3 : ∀ w ∈ u_ws RX3 TX3 4, w ∈ wsX1_nearestPin := by decide +kernel
  have f47 := hc.1.2.2.2.2 (.fieldLink RX1 47 "GlobalRoutes$Net" "pinCount" "I") (by decide +kernel)
  have f38 := hc.1.2.2.2.2 (.fieldLink RX1 38 "GlobalRoutes$Net" "pins" "[I") (by decide +kernel)
  have i1 : ∀ w ∈ u_ws RX1 TX1 4, w ∈ wsX1_nearestPin := by decide +kernel
  have f31 := hc.1.2.2.2.2 (.fieldLink RX1 31 "GlobalRoutes$Leader" "tree" "[Z") (by decide +kernel)
  have f28 := hc.1.2.2.2.2 (.fieldLink RX1 28 "GlobalRoutes$Leader" "distances" "[I") (by decide +kernel)
  refine q_iconst hc dX1_nearestPin_0 ?_
  refine q_istore_n hc [(2, .int (iZ (-1))), (0, .ref (ad 7)), (1, .ref (ad (30 + 3 * t)))] dX1_nearestPin_1 rfl (by decide) rfl ?_
  refine q_iconstN hc 0 dX1_nearestPin_2 rfl ?_
  refine q_istore_n hc [(3, .int (iZ ((0 : Nat) : Int))), (2, .int (iZ (-1))), (0, .ref (ad 7)), (1, .ref (ad (30 + 3 * t)))] dX1_nearestPin_3 rfl (by decide) rfl ?_
  refine V.sub [2, 3, 1, 0] rfl ?_
  refine V.loopP (α := Nat × (Option Nat)) (fun x => pn - x.1) (fun x => (x.1 ≤ pn) ∧ (x.2 = nrP tr di pi x.1) ∧ (∀ b, x.2 = some b → b < n)) (fun x => [(0, .ref (ad 7)), (1, .ref (ad (30 + 3 * t))), (2, .int (iZ (oZ x.2))), (3, .int (iZ ((x.1 : Nat) : Int)))]) (0, none) ⟨(Nat.zero_le _), (rfl), (fun b h => by cases h)⟩ rfl ?_
  intro x ih4 hI
  obtain ⟨i, a⟩ := x
  try dsimp only at ih4 hI ⊢
  obtain ⟨hi0, ha, hab⟩ := hI
  refine q_iload_n hc 3 dX1_nearestPin_4 rfl ?_
  refine q_aload_n hc 1 dX1_nearestPin_5 rfl ?_
  refine q_get hc (30 + 3 * t) 2 i3 hno rfl (by decide) f47 rfl rfl dX1_nearestPin_6 ?_
  refine q_icmpN_ge hc 60 dX1_nearestPin_9 (by decide) (by omega) (by omega) (fun c2 => ?_) (fun c2 => ?_)
  · refine q_iload_n hc 2 dX1_nearestPin_60 rfl ?_
    exact q_iretP (z := oZ a) hc (by rw [ha, show i = pn by omega]) hr hlk dX1_nearestPin_61
  · refine q_aload_n hc 1 dX1_nearestPin_12 rfl ?_
    refine q_get hc (30 + 3 * t) 0 i3 hno rfl (by decide) f38 rfl rfl dX1_nearestPin_13 ?_
    refine q_iload_n hc 3 dX1_nearestPin_16 rfl ?_
    refine q_ialdN (j := i) hc (31 + 3 * t) hpi rfl (by omega) (by omega) dX1_nearestPin_17 ?_
    have hpi9 := hpin i (by omega)
    refine q_istore hc [(4, .int (iZ ((pi i : Nat) : Int))), (0, .ref (ad 7)), (1, .ref (ad (30 + 3 * t))), (2, .int (iZ (oZ a))), (3, .int (iZ ((i : Nat) : Int)))] dX1_nearestPin_18 (by decide) rfl ?_
    refine q_aload_n hc 1 dX1_nearestPin_20 rfl ?_
    refine q_get hc 7 3 i1 h7 rfl (by decide) f31 rfl rfl dX1_nearestPin_21 ?_
    refine q_iload hc 0 dX1_nearestPin_24 rfl ?_
    refine q_zald (j := pi i) hc 10 h10 rfl (by omega) (by omega) dX1_nearestPin_26 ?_
    refine q_ifz_ne hc 54 dX1_nearestPin_27 (by decide) (fun c3 => ?_) (fun c3 => ?_)
    · refine q_iincN (q := 4) hc 1 [(3, .int (iZ ((i + 1 : Nat) : Int))), (4, .int (iZ ((pi i : Nat) : Int))), (0, .ref (ad 7)), (1, .ref (ad (30 + 3 * t))), (2, .int (iZ (oZ a)))] dX1_nearestPin_54 rfl rfl (by decide) rfl ?_
      refine q_goto hc 4 dX1_nearestPin_57 (by decide) ?_
      refine V.sub [2, 3, 4, 0] rfl ?_
      exact ih4 (i + 1, a) (by omega) ⟨(by omega), (by rw [nrP_in c3]; exact ha), (hab)⟩
    · refine q_iload_n hc 3 dX1_nearestPin_30 rfl ?_
      rcases a with _ | b0
      · refine V.topi (show _ = -1 from rfl) ?_
        refine q_iconst hc dX1_nearestPin_31 ?_
        refine q_icmp_eq hc 51 dX1_nearestPin_32 (by decide) (by omega) (by omega) (fun c4 => ?_) (fun c4 => ?_)
        · refine q_iload hc 0 dX1_nearestPin_51 rfl ?_
          refine q_istore_n hc [(2, .int (iZ ((pi i : Nat) : Int))), (4, .int (iZ ((pi i : Nat) : Int))), (0, .ref (ad 7)), (1, .ref (ad (30 + 3 * t))), (3, .int (iZ ((i : Nat) : Int)))] dX1_nearestPin_53 rfl (by decide) rfl ?_
          refine q_iincN (q := 4) hc 1 [(3, .int (iZ ((i + 1 : Nat) : Int))), (2, .int (iZ ((pi i : Nat) : Int))), (4, .int (iZ ((pi i : Nat) : Int))), (0, .ref (ad 7)), (1, .ref (ad (30 + 3 * t)))] dX1_nearestPin_54 rfl rfl (by decide) rfl ?_
          refine q_goto hc 4 dX1_nearestPin_57 (by decide) ?_
          refine V.sub [3, 4, 1, 0] rfl ?_
          exact ih4 (i + 1, some (pi i)) (by omega) ⟨(by omega), ((nrP_none c3 ha).symm), (fun b h => by cases h; exact hpin i (by omega))⟩
        · exact absurd rfl c4
      · refine V.topi (show _ = ((b0 : Nat) : Int) from rfl) ?_
        have hb0 := hab b0 rfl
        refine q_iconst hc dX1_nearestPin_31 ?_
        refine q_icmp_eq hc 51 dX1_nearestPin_32 (by decide) (by omega) (by omega) (fun c5 => ?_) (fun c5 => ?_)
        · exact absurd c5 (by omega)
        · refine q_aload_n hc 1 dX1_nearestPin_35 rfl ?_
          refine q_get hc 7 2 i1 h7 rfl (by decide) f28 rfl rfl dX1_nearestPin_36 ?_
          refine q_iload hc 0 dX1_nearestPin_39 rfl ?_
          refine q_ialdN (j := pi i) hc 9 h9 rfl (by omega) (by omega) dX1_nearestPin_41 ?_
          have hb6 := hdi (pi i)
          refine q_aload_n hc 1 dX1_nearestPin_42 rfl ?_
          refine q_get hc 7 2 i1 h7 rfl (by decide) f28 rfl rfl dX1_nearestPin_43 ?_
          refine q_iload_n hc 3 dX1_nearestPin_46 rfl ?_
          refine V.topi (show _ = ((b0 : Nat) : Int) from rfl) ?_
          refine q_ialdN (j := b0) hc 9 h9 rfl (by omega) (by omega) dX1_nearestPin_47 ?_
          have hb7 := hdi b0
          refine q_icmpN_ge hc 54 dX1_nearestPin_48 (by decide) (by omega) (by omega) (fun c8 => ?_) (fun c8 => ?_)
          · refine q_iincN (q := 4) hc 1 [(3, .int (iZ ((i + 1 : Nat) : Int))), (4, .int (iZ ((pi i : Nat) : Int))), (0, .ref (ad 7)), (1, .ref (ad (30 + 3 * t))), (2, .int (iZ (oZ (some b0))))] dX1_nearestPin_54 rfl rfl (by decide) rfl ?_
            refine q_goto hc 4 dX1_nearestPin_57 (by decide) ?_
            refine V.sub [2, 3, 4, 0] rfl ?_
            exact ih4 (i + 1, (some b0)) (by omega) ⟨(by omega), (by rw [nrP_some c3 ha, if_neg (by omega)]), (hab)⟩
          · refine q_iload hc 0 dX1_nearestPin_51 rfl ?_
            refine q_istore_n hc [(2, .int (iZ ((pi i : Nat) : Int))), (4, .int (iZ ((pi i : Nat) : Int))), (0, .ref (ad 7)), (1, .ref (ad (30 + 3 * t))), (3, .int (iZ ((i : Nat) : Int)))] dX1_nearestPin_53 rfl (by decide) rfl ?_
            refine q_iincN (q := 4) hc 1 [(3, .int (iZ ((i + 1 : Nat) : Int))), (2, .int (iZ ((pi i : Nat) : Int))), (4, .int (iZ ((pi i : Nat) : Int))), (0, .ref (ad 7)), (1, .ref (ad (30 + 3 * t)))] dX1_nearestPin_54 rfl rfl (by decide) rfl ?_
            refine q_goto hc 4 dX1_nearestPin_57 (by decide) ?_
            refine V.sub [3, 4, 1, 0] rfl ?_
            exact ih4 (i + 1, some (pi i)) (by omega) ⟨(by omega), (by rw [nrP_some c3 ha, if_pos (by omega)]), (fun b h => by cases h; exact hpin i (by omega))⟩

set_option maxRecDepth 100000 in
set_option maxHeartbeats 4000000 in
theorem c_X1_stepToTree (l : Launch) (D : va_G) (K : Nat → ClassId) (ws : va_W) (ad : Nat → Nat) (q : Nat) (w h n : Nat) (di co : Nat → Nat) (nb bt : Nat → Option Nat) (h1 : ws[1]? = some (ad 1, gO ad w h n)) (h5 : ws[5]? = some (ad 5, iA K (4 * n) (fun k => oZ (nb k)))) (h6 : ws[6]? = some (ad 6, iA K (4 * n) (fun k => oZ (bt k)))) (h7 : ws[7]? = some (ad 7, lO ad)) (h8 : ws[8]? = some (ad 8, iN K (2 * n) co)) (h9 : ws[9]? = some (ad 9, iN K n di)) (hn : n ≤ 64) (hq : q < n) (hNB : NB n nb bt) (hdi : ∀ k, di k ≤ 1000000000) (hco : ∀ k, k < 2 * n → co k ≤ 6000) : MPi l yX1_stepToTree wsX1_stepToTree ({ frames := 1, cells := 0, slots := 0, locals := 21 }) D K ws [.ref (ad 7), .int (iZ ((q : Nat) : Int))] (fun r => r = (iZ (oZ (stp nb bt di co q 4)))) := by
  refine q_entPi RX1 [(0, .ref (ad 7)), (1, .int (iZ ((q : Nat) : Int)))] (by decide) rfl rfl (Nat.le_of_ble_eq_true rfl) rfl ?_
  intro p e s m args below meth c hc hr hlk
  have i1 : ∀ w ∈ u_ws RX1 TX1 4, w ∈ wsX1_stepToTree := by decide +kernel
  have f9 := hc.1.2.2.2.2 (.fieldLink RX1 9 "GlobalRoutes$Leader" "grid" "LGlobalRoutes$Grid;") (by decide +kernel)
  have i0 : ∀ w ∈ u_ws RX0 TX0 9, w ∈ wsX1_stepToTree := by decide +kernel
  have f77 := hc.1.2.2.2.2 (.fieldLink RX1 77 "GlobalRoutes$Grid" "neighbours" "[I") (by decide +kernel)
  have f28 := hc.1.2.2.2.2 (.fieldLink RX1 28 "GlobalRoutes$Leader" "distances" "[I") (by decide +kernel)
  refine q_iconstN hc 4 dX1_stepToTree_0 rfl ?_
  refine q_iload_n hc 1 dX1_stepToTree_1 rfl ?_
  refine q_imulN hc dX1_stepToTree_2 ?_
  refine q_istore_n hc [(2, .int (iZ ((4 * q : Nat) : Int))), (0, .ref (ad 7)), (1, .int (iZ ((q : Nat) : Int)))] dX1_stepToTree_3 rfl (by decide) rfl ?_
  refine q_iload_n hc 0 dX1_stepToTree_4 rfl ?_
  refine q_istore_n hc [(3, .int (iZ ((4 * q : Nat) : Int))), (2, .int (iZ ((4 * q : Nat) : Int))), (0, .ref (ad 7)), (1, .int (iZ ((q : Nat) : Int)))] dX1_stepToTree_5 rfl (by decide) rfl ?_
  refine V.sub [2, 3, 1, 0] rfl ?_
  refine V.loopP (α := Nat) (fun x => 4 - x) (fun x => (x ≤ 4) ∧ (stp nb bt di co q x = none)) (fun x => [(0, .ref (ad 7)), (1, .int (iZ ((q : Nat) : Int))), (2, .int (iZ ((4 * q : Nat) : Int))), (3, .int (iZ ((4 * q + x : Nat) : Int)))]) 0 ⟨(Nat.zero_le _), (rfl)⟩ rfl ?_
  intro j ih6 hI
  try dsimp only at ih6 hI ⊢
  obtain ⟨hj, hs⟩ := hI
  refine q_iload_n hc 3 dX1_stepToTree_6 rfl ?_
  refine q_iload_n hc 2 dX1_stepToTree_7 rfl ?_
  refine q_iconstN hc 4 dX1_stepToTree_8 rfl ?_
  refine q_iaddN hc dX1_stepToTree_9 ?_
  refine q_icmpN_ge hc 48 dX1_stepToTree_10 (by decide) (by omega) (by omega) (fun c2 => ?_) (fun c2 => ?_)
  · obtain rfl : j = 4 := by omega
    refine q_iconst hc dX1_stepToTree_48 ?_
    exact q_iretP (z := (-1)) hc (by rw [hs]; rfl) hr hlk dX1_stepToTree_49
  · refine q_aload_n hc 0 dX1_stepToTree_13 rfl ?_
    refine q_get hc 7 0 i1 h7 rfl (by decide) f9 rfl rfl dX1_stepToTree_14 ?_
    refine q_get hc 1 7 i0 h1 rfl (by decide) f77 rfl rfl dX1_stepToTree_17 ?_
    refine q_iload_n hc 3 dX1_stepToTree_20 rfl ?_
    refine q_iald (j := 4 * q + j) hc 5 h5 rfl (by omega) (by omega) dX1_stepToTree_21 ?_
    rcases hNB (4 * q + j) with hu | ⟨u, b, hu, hb, hu1, hb1⟩
    · refine V.topi (show _ = -1 from by show oZ (nb (4 * q + j)) = _; rw [hu]; rfl) ?_
      refine q_iconst hc dX1_stepToTree_22 ?_
      refine q_icmp_eq hc 42 dX1_stepToTree_23 (by decide) (by omega) (by omega) (fun c3 => ?_) (fun c3 => ?_)
      · refine q_iincN (q := 3) hc 1 [(3, .int (iZ ((4 * q + j + 1 : Nat) : Int))), (0, .ref (ad 7)), (1, .int (iZ ((q : Nat) : Int))), (2, .int (iZ ((4 * q : Nat) : Int)))] dX1_stepToTree_42 rfl rfl (by decide) rfl ?_
        refine q_goto hc 6 dX1_stepToTree_45 (by decide) ?_
        refine V.sub [1, 2, 3, 0] rfl ?_
        exact ih6 (j + 1) (by omega) ⟨(by omega), (stp_no hs (by rw [dth_none hu]; intro h; cases h))⟩
      · exact absurd rfl c3
    · refine V.topi (show _ = ((u : Nat) : Int) from by show oZ (nb (4 * q + j)) = _; rw [hu]; rfl) ?_
      refine q_iconst hc dX1_stepToTree_22 ?_
      refine q_icmp_eq hc 42 dX1_stepToTree_23 (by decide) (by omega) (by omega) (fun c4 => ?_) (fun c4 => ?_)
      · exact absurd c4 (by omega)
      · refine q_aload_n hc 0 dX1_stepToTree_26 rfl ?_
        refine q_iload_n hc 3 dX1_stepToTree_27 rfl ?_
        refine q_callPn (As := [.int (iZ ((4 * q + j : Nat) : Int))]) (rest := []) hc (c_X1_distanceThrough l D K ws ad (4 * q + j) u b w h n di co _ _ h1 h5 h6 h7 h8 h9 hn (by omega) hu hb hu1 hb1) (cwV 1 hc.1.2.2.2.2 gX1_stepToTree_X1_distanceThrough rfl rfl rfl (by decide +kernel) ⟨Nat.le_of_ble_eq_true rfl, Nat.le_of_ble_eq_true rfl⟩) 7 h7 rfl rfl rfl (by decide) dX1_stepToTree_28 ⟨Nat.zero_le _, Nat.zero_le _⟩ ?_
        have hb7 := hdi u; have hb6 := hco b (by omega); have hb5 := hdi q
        refine q_aload_n hc 0 dX1_stepToTree_31 rfl ?_
        refine q_get hc 7 2 i1 h7 rfl (by decide) f28 rfl rfl dX1_stepToTree_32 ?_
        refine q_iload_n hc 1 dX1_stepToTree_35 rfl ?_
        refine q_ialdN (j := q) hc 9 h9 rfl (by omega) (by omega) dX1_stepToTree_36 ?_
        refine q_icmpN_ne hc 42 dX1_stepToTree_37 (by decide) (by omega) (by omega) (fun c7 => ?_) (fun c7 => ?_)
        · refine q_iincN (q := 3) hc 1 [(3, .int (iZ ((4 * q + j + 1 : Nat) : Int))), (0, .ref (ad 7)), (1, .int (iZ ((q : Nat) : Int))), (2, .int (iZ ((4 * q : Nat) : Int)))] dX1_stepToTree_42 rfl rfl (by decide) rfl ?_
          refine q_goto hc 6 dX1_stepToTree_45 (by decide) ?_
          refine V.sub [1, 2, 3, 0] rfl ?_
          exact ih6 (j + 1) (by omega) ⟨(by omega), (stp_no hs (by rw [dth_some hu hb]; intro h; exact c7 (Option.some.inj h)))⟩
        · refine q_iload_n hc 3 dX1_stepToTree_40 rfl ?_
          exact q_iretP (z := ((4 * q + j : Nat) : Int)) hc (by rw [stp_yes hs (by rw [dth_some hu hb, c7]) 4 (by omega)]; rfl) hr hlk dX1_stepToTree_41
