
set_option maxRecDepth 100000 in
set_option maxHeartbeats 4000000 in
theorem c_X2_leastOf (l : Launch) (D : va_G) (K : Nat → ClassId) (ws : va_W) (ad : Nat → Nat) (t : Nat) (pn : Nat) (rl : Int) (w h n : Nat) (pi : Nat → Nat) (nb bt : Nat → Option Nat) (rw : Nat → Nat → Nat) (h1 : ws[1]? = some (ad 1, gO ad w h n)) (h5 : ws[5]? = some (ad 5, iA K (4 * n) (fun k => oZ (nb k)))) (h11 : ws[11]? = some (ad 11, tO ad)) (h12 : ws[12]? = some (ad 12, rA K 16 (rF ad))) (hR : ∀ s, s < 16 → ws[13 + s]? = some (ad (13 + s), iN K n (rw s))) (hno : ws[30 + 3 * t]? = some (ad (30 + 3 * t), nO ad t pn rl)) (hpi : ws[31 + 3 * t]? = some (ad (31 + 3 * t), iN K 5 pi)) (hn : n ≤ 64) (hw : 0 < w ∧ w ≤ 8 ∧ h ≤ 8) (hNB : NB n nb bt) (hpn : pn ≤ 5) (hpin : ∀ k, k < pn → pi k < n) (hpib : ∀ k, pi k < 64) (hrw : ∀ s k, rw s k ≤ 1000000000) : MMi l yX2_leastOf wsX2_leastOf ({ frames := 3, cells := 0, slots := 0, locals := 69 }) D K ws [.ref (ad 11), .ref (ad (30 + 3 * t))] (fun r u => (r = (iZ ((lsV nb w n pn pi rw : Nat) : Int))) ∧ (∀ s, s < 16 → u[13 + s]? = some (ad (13 + s), iN K n ((lsR nb w n pn pi rw) s))) ∧ (Fr (fun j => (13 ≤ j ∧ j < 29)) ws u)) := by
  refine q_entMi RX2 [(0, .ref (ad 11)), (1, .ref (ad (30 + 3 * t)))] (by decide) rfl rfl (Nat.le_of_ble_eq_true rfl) rfl ?_
  intro p e s m args below meth c hc hr hlk
  have i3 : ∀ w ∈ u_ws RX3 TX3 4, w ∈ wsX2_leastOf := by decide +kernel
  have f32 := hc.1.2.2.2.2 (.fieldLink RX2 32 "GlobalRoutes$Net" "pinCount" "I") (by decide +kernel)
  have i2 : ∀ w ∈ u_ws RX2 TX2 2, w ∈ wsX2_leastOf := by decide +kernel
  have f23 := hc.1.2.2.2.2 (.fieldLink RX2 23 "GlobalRoutes$LeastTable" "rows" "[[I") (by decide +kernel)
  have f35 := hc.1.2.2.2.2 (.fieldLink RX2 35 "GlobalRoutes$Net" "pins" "[I") (by decide +kernel)
  have fr0 : Fr (fun j => (13 ≤ j ∧ j < 29)) ws ws := Fr.rfl
  refine q_aload_n hc 1 dX2_leastOf_0 rfl ?_
  refine q_callPz (As := []) (rest := []) hc (c_X3_isRoutable l D K ws ad t pn rl hno hpn) (cwV 0 hc.1.2.2.2.2 gX2_leastOf_X3_isRoutable rfl rfl rfl (by decide +kernel) ⟨Nat.le_of_ble_eq_true rfl, Nat.le_of_ble_eq_true rfl⟩) (30 + 3 * t) hno rfl rfl rfl (by decide) dX2_leastOf_1 ⟨Nat.zero_le _, Nat.zero_le _⟩ ?_
  refine q_ifz_ne hc 9 dX2_leastOf_4 (by decide) (fun c3 => ?_) (fun c3 => ?_)
  · have c0 := of_decide_eq_true c3
    refine q_aload_n hc 1 dX2_leastOf_9 rfl ?_
    refine q_get hc (30 + 3 * t) 2 i3 hno rfl (by decide) f32 rfl rfl dX2_leastOf_10 ?_
    refine q_iconstN hc 1 dX2_leastOf_13 rfl ?_
    refine q_isubN hc dX2_leastOf_14 (by omega) ?_
    refine q_istore_n hc [(2, .int (iZ ((pn - 1 : Nat) : Int))), (0, .ref (ad 11)), (1, .ref (ad (30 + 3 * t)))] dX2_leastOf_15 rfl (by decide) rfl ?_
    refine q_iconstN hc 1 dX2_leastOf_16 rfl ?_
    refine q_iload_n hc 0 dX2_leastOf_17 rfl ?_
    refine q_ishlW hc dX2_leastOf_18 ?_
    refine V.topw (z := ((2 ^ (pn - 1) : Nat) : Int)) (shl1 _ (by omega)) ?_
    refine q_istore_n hc [(3, .int (iZ ((2 ^ (pn - 1) : Nat) : Int))), (2, .int (iZ ((pn - 1 : Nat) : Int))), (0, .ref (ad 11)), (1, .ref (ad (30 + 3 * t)))] dX2_leastOf_19 rfl (by decide) rfl ?_
    have hp9 := p2_le (pn - 1) (by omega); have hp8 := p2_pos (pn - 1)
    refine q_iconstN hc 0 dX2_leastOf_20 rfl ?_
    refine q_istore hc [(4, .int (iZ ((0 : Nat) : Int))), (3, .int (iZ ((2 ^ (pn - 1) : Nat) : Int))), (2, .int (iZ ((pn - 1 : Nat) : Int))), (0, .ref (ad 11)), (1, .ref (ad (30 + 3 * t)))] dX2_leastOf_21 (by decide) rfl ?_
    refine V.sub [3, 4, 2, 1, 0] rfl ?_
    refine V.loop (α := Nat) (fun x => (pn - 1) - x) (fun x u => (x ≤ pn - 1) ∧ (∀ s, s < 16 → u[13 + s]? = some (ad (13 + s), iN K n ((lt1 w n pi rw x) s))) ∧ (Fr (fun j => (13 ≤ j ∧ j < 29)) ws u)) (fun x => [(0, .ref (ad 11)), (1, .ref (ad (30 + 3 * t))), (2, .int (iZ ((pn - 1 : Nat) : Int))), (3, .int (iZ ((2 ^ (pn - 1) : Nat) : Int))), (4, .int (iZ ((x : Nat) : Int)))]) 0 ⟨(Nat.zero_le _), (hR), (Fr.rfl)⟩ rfl ?_
    intro i ih23 u4 hI
    try dsimp only at ih23 hI ⊢
    obtain ⟨hi0, hq5, fr6⟩ := hI
    have hq7 := (fr6.at 1 (by omega)).trans h1
    have hq8 := (fr6.at 5 (by omega)).trans h5
    have hq9 := (fr6.at 11 (by omega)).trans h11
    have hq10 := (fr6.at 12 (by omega)).trans h12
    have hq11 := (fr6.at (30 + 3 * t) (by omega)).trans hno
    have hq12 := (fr6.at (31 + 3 * t) (by omega)).trans hpi
    refine q_iload hc 4 dX2_leastOf_23 rfl ?_
    refine q_iload_n hc 2 dX2_leastOf_25 rfl ?_
    refine q_icmpN_ge hc 55 dX2_leastOf_26 (by decide) (by omega) (by omega) (fun c13 => ?_) (fun c13 => ?_)
    · obtain rfl : i = pn - 1 := by omega
      refine q_iconstN hc 1 dX2_leastOf_55 rfl ?_
      refine q_istore hc [(4, .int (iZ ((1 : Nat) : Int))), (0, .ref (ad 11)), (1, .ref (ad (30 + 3 * t))), (2, .int (iZ ((pn - 1 : Nat) : Int))), (3, .int (iZ ((2 ^ (pn - 1) : Nat) : Int)))] dX2_leastOf_56 (by decide) rfl ?_
      refine V.sub [1, 2, 3, 4, 0] rfl ?_
      refine V.loop (α := Nat) (fun x => 2 ^ (pn - 1) - (x + 1)) (fun x u => (x + 1 ≤ 2 ^ (pn - 1)) ∧ (∀ s k, lt2 nb n (lt1 w n pi rw (pn - 1)) x s k ≤ 1000000000) ∧ (∀ s, s < 16 → u[13 + s]? = some (ad (13 + s), iN K n ((lt2 nb n (lt1 w n pi rw (pn - 1)) x) s))) ∧ (Fr (fun j => (13 ≤ j ∧ j < 29)) u4 u)) (fun x => [(0, .ref (ad 11)), (1, .ref (ad (30 + 3 * t))), (2, .int (iZ ((pn - 1 : Nat) : Int))), (3, .int (iZ ((2 ^ (pn - 1) : Nat) : Int))), (4, .int (iZ ((x + 1 : Nat) : Int)))]) 0 ⟨(by omega), (lt1_bd ⟨hw.1, hw.2.1⟩ hn hpib hrw _), (hq5), (Fr.rfl)⟩ rfl ?_
      intro j ih58 u14 hI
      try dsimp only at ih58 hI ⊢
      obtain ⟨hj, hjb, hq15, fr16⟩ := hI
      have hq17 := (fr16.at 1 (by omega)).trans hq7
      have hq18 := (fr16.at 5 (by omega)).trans hq8
      have hq19 := (fr16.at 11 (by omega)).trans hq9
      have hq20 := (fr16.at 12 (by omega)).trans hq10
      have hq21 := (fr16.at (30 + 3 * t) (by omega)).trans hq11
      have hq22 := (fr16.at (31 + 3 * t) (by omega)).trans hq12
      refine q_iload hc 4 dX2_leastOf_58 rfl ?_
      refine q_iload_n hc 3 dX2_leastOf_60 rfl ?_
      refine q_icmpN_ge hc 96 dX2_leastOf_61 (by decide) (by omega) (by omega) (fun c23 => ?_) (fun c23 => ?_)
      · obtain rfl : j = 2 ^ (pn - 1) - 1 := by omega
        have hq24 : ∀ s, s < 16 → u14[13 + s]? = some (ad (13 + s), iN K n ((lsR nb w n pn pi rw) s)) := fun s hs => by have h8 := hq15 s hs; rw [show lsR nb w n pn pi rw = lt2 nb n (lt1 w n pi rw (pn - 1)) (2 ^ (pn - 1) - 1) from if_neg (by omega)]; exact h8
        refine q_aload_n hc 0 dX2_leastOf_96 rfl ?_
        refine q_get hc 11 1 i2 hq19 rfl (by decide) f23 rfl rfl dX2_leastOf_97 ?_
        refine q_iload_n hc 3 dX2_leastOf_100 rfl ?_
        refine q_iconstN hc 1 dX2_leastOf_101 rfl ?_
        refine q_isubN hc dX2_leastOf_102 (by omega) ?_
        refine q_rald (j := (2 ^ (pn - 1)) - 1) hc 12 hq20 rfl (by omega) (by omega) dX2_leastOf_103 ?_
        refine V.topv (show _ = Value.ref (ad (13 + ((2 ^ (pn - 1)) - 1))) from rfl) ?_
        refine q_aload_n hc 1 dX2_leastOf_104 rfl ?_
        refine q_get hc (30 + 3 * t) 0 i3 hq21 rfl (by decide) f35 rfl rfl dX2_leastOf_105 ?_
        refine q_iload_n hc 2 dX2_leastOf_108 rfl ?_
        refine q_ialdN (j := pn - 1) hc (31 + 3 * t) hq22 rfl (by omega) (by omega) dX2_leastOf_109 ?_
        have hpl := hpin (pn - 1) (by omega)
        have hq25 : u14[13 + ((2 ^ (pn - 1)) - 1)]? = some (ad (13 + ((2 ^ (pn - 1)) - 1)), iN K n ((lsR nb w n pn pi rw) ((2 ^ (pn - 1)) - 1))) := hq24 ((2 ^ (pn - 1)) - 1) (by omega)
        refine q_ialdN (j := pi (pn - 1)) hc (13 + ((2 ^ (pn - 1)) - 1)) hq25 rfl (by omega) (by omega) dX2_leastOf_110 ?_
        exact q_iretM (z := ((((lsR nb w n pn pi rw) ((2 ^ (pn - 1)) - 1)) (pi (pn - 1)) : Nat) : Int)) hc (⟨congrArg iZ (show _ = ((lsV nb w n pn pi rw : Nat) : Int) from by rw [show lsV nb w n pn pi rw = lsR nb w n pn pi rw (2 ^ (pn - 1) - 1) (pi (pn - 1)) from if_neg (by omega)]), hq24, ((fr0.trans fr6 (fun _ _ => by omega)).trans fr16 (fun _ _ => by omega))⟩) hr hlk dX2_leastOf_111
      · refine q_iload hc 4 dX2_leastOf_64 rfl ?_
        refine q_callPSn (As := [.int (iZ ((j + 1 : Nat) : Int))]) (rest := []) hc (c_J6_bitCount_0f7a4 l D K u14 ad (j + 1)  (by omega)) (va_cwS 1 hc.1.2.2.2.2 gX2_leastOf_J6_bitCount_0f7a4 rfl rfl rfl (by decide +kernel) ⟨Nat.le_of_ble_eq_true rfl, Nat.le_of_ble_eq_true rfl⟩) rfl rfl (by decide) dX2_leastOf_66 ⟨Nat.zero_le _, Nat.zero_le _⟩ ?_
        have hb9 := bcN_le (j + 1)
        refine q_iconstN hc 1 dX2_leastOf_69 rfl ?_
        refine q_icmpN_le hc 90 dX2_leastOf_70 (by decide) (by omega) (by omega) (fun c27 => ?_) (fun c27 => ?_)
        · refine q_iincN (q := 4) hc 1 [(4, .int (iZ ((j + 1 + 1 : Nat) : Int))), (0, .ref (ad 11)), (1, .ref (ad (30 + 3 * t))), (2, .int (iZ ((pn - 1 : Nat) : Int))), (3, .int (iZ ((2 ^ (pn - 1) : Nat) : Int)))] dX2_leastOf_90 rfl rfl (by decide) rfl ?_
          refine q_goto hc 58 dX2_leastOf_93 (by decide) ?_
          have hq28 : ∀ s, s < 16 → u14[13 + s]? = some (ad (13 + s), iN K n ((lt2 nb n (lt1 w n pi rw (pn - 1)) (j + 1)) s)) := fun s hs => by have h8 := hq15 s hs; rw [lt2_s, if_neg (by omega)]; exact h8
          refine V.sub [1, 2, 3, 4, 0] rfl ?_
          exact ih58 (j + 1) _ (by omega) ⟨(by omega), (lt2_bd (lt1_bd ⟨hw.1, hw.2.1⟩ hn hpib hrw _) _), (hq28), (fr16)⟩
        · have hb2 := bcN_two (j + 1) (by omega)
          refine q_aload_n hc 0 dX2_leastOf_73 rfl ?_
          refine q_iload hc 4 dX2_leastOf_74 rfl ?_
          refine q_callMv (As := [.int (iZ ((j + 1 : Nat) : Int))]) (rest := []) hc (c_X2_fillFromParts l D K u14 ad (j + 1) w h n (lt2 nb n (lt1 w n pi rw (pn - 1)) j) hq17 hq19 hq20 hq15 hn ⟨by omega, by omega⟩ hjb) (cwV 1 hc.1.2.2.2.2 gX2_leastOf_X2_fillFromParts rfl rfl rfl (by decide +kernel) ⟨Nat.le_of_ble_eq_true rfl, Nat.le_of_ble_eq_true rfl⟩) 11 hq19 rfl rfl rfl (by decide) dX2_leastOf_76 ⟨Nat.zero_le _, Nat.zero_le _⟩ (fun u29 hp' => ?_)
          obtain ⟨hq31, fr32⟩ := hp'
          have hq33 := (fr32.at 1 (by omega)).trans hq17
          have hq34 := (fr32.at 5 (by omega)).trans hq18
          have hq35 := (fr32.at 11 (by omega)).trans hq19
          have hq36 := (fr32.at 12 (by omega)).trans hq20
          have hq37 := (fr32.at (30 + 3 * t) (by omega)).trans hq21
          have hq38 := (fr32.at (31 + 3 * t) (by omega)).trans hq22
          have hq39 : ∀ s, s < 16 → u29[13 + s]? = some (ad (13 + s), iN K n ((va_up (lt2 nb n (lt1 w n pi rw (pn - 1)) j) (j + 1) (fpA (lt2 nb n (lt1 w n pi rw (pn - 1)) j) (j + 1) ((j + 1) - 1))) s)) := fun s hs => by
            by_cases e9 : s = j + 1
            · rw [e9]; simp only [va_up_self]; exact hq31
            · have h8 := (fr32.at (13 + s) (by omega)).trans (hq15 s hs)
              try simp only [va_up_ne _ _ e9] at h8
              simp only [va_up_ne _ _ e9]; exact h8
          refine q_aload_n hc 0 dX2_leastOf_79 rfl ?_
          refine q_aload_n hc 0 dX2_leastOf_80 rfl ?_
          refine q_get hc 11 1 i2 hq35 rfl (by decide) f23 rfl rfl dX2_leastOf_81 ?_
          refine q_iload hc 4 dX2_leastOf_84 rfl ?_
          refine q_rald (j := j + 1) hc 12 hq36 rfl (by omega) (by omega) dX2_leastOf_86 ?_
          refine V.topv (show _ = Value.ref (ad (13 + (j + 1))) from rfl) ?_
          have hq40 : u29[13 + (j + 1)]? = some (ad (13 + (j + 1)), iN K n (fpA (lt2 nb n (lt1 w n pi rw (pn - 1)) j) (j + 1) ((j + 1) - 1))) := by have h9 := hq39 (j + 1) (by omega); simp only [va_up_self] at h9; exact h9
          refine q_callMv (As := [.ref (ad (13 + (j + 1)))]) (rest := []) hc (c_X2_spreadRow l D K u29 ad (13 + (j + 1)) w h n (fpA (lt2 nb n (lt1 w n pi rw (pn - 1)) j) (j + 1) ((j + 1) - 1)) _ _ hq33 hq34 hq35 hq40 hn (by omega) hNB (fpA_bd _ _ _)) (cwV 1 hc.1.2.2.2.2 gX2_leastOf_X2_spreadRow rfl rfl rfl (by decide +kernel) ⟨Nat.le_of_ble_eq_true rfl, Nat.le_of_ble_eq_true rfl⟩) 11 hq35 rfl rfl rfl (by decide) dX2_leastOf_87 ⟨Nat.zero_le _, Nat.zero_le _⟩ (fun u41 hp' => ?_)
          obtain ⟨hq43, fr44⟩ := hp'
          have hq45 := (fr44.at 1 (by omega)).trans hq33
          have hq46 := (fr44.at 5 (by omega)).trans hq34
          have hq47 := (fr44.at 11 (by omega)).trans hq35
          have hq48 := (fr44.at 12 (by omega)).trans hq36
          have hq49 := (fr44.at (30 + 3 * t) (by omega)).trans hq37
          have hq50 := (fr44.at (31 + 3 * t) (by omega)).trans hq38
          have hq51 : ∀ s, s < 16 → u41[13 + s]? = some (ad (13 + s), iN K n ((va_up (lt2 nb n (lt1 w n pi rw (pn - 1)) j) (j + 1) (spR nb n (fpA (lt2 nb n (lt1 w n pi rw (pn - 1)) j) (j + 1) ((j + 1) - 1)))) s)) := fun s hs => by
            by_cases e9 : s = j + 1
            · rw [e9]; simp only [va_up_self]; exact hq43
            · have h8 := (fr44.at (13 + s) (by omega)).trans (hq39 s hs)
              try simp only [va_up_ne _ _ e9] at h8
              simp only [va_up_ne _ _ e9]; exact h8
          refine q_iincN (q := 4) hc 1 [(4, .int (iZ ((j + 1 + 1 : Nat) : Int))), (0, .ref (ad 11)), (1, .ref (ad (30 + 3 * t))), (2, .int (iZ ((pn - 1 : Nat) : Int))), (3, .int (iZ ((2 ^ (pn - 1) : Nat) : Int)))] dX2_leastOf_90 rfl rfl (by decide) rfl ?_
          refine q_goto hc 58 dX2_leastOf_93 (by decide) ?_
          have hq52 : ∀ s, s < 16 → u41[13 + s]? = some (ad (13 + s), iN K n ((lt2 nb n (lt1 w n pi rw (pn - 1)) (j + 1)) s)) := fun s hs => by have h8 := hq51 s hs; rw [lt2_s, if_pos (by omega)]; exact h8
          refine V.sub [1, 2, 3, 4, 0] rfl ?_
          exact ih58 (j + 1) _ (by omega) ⟨(by omega), (lt2_bd (lt1_bd ⟨hw.1, hw.2.1⟩ hn hpib hrw _) _), (hq52), (((fr16.trans fr32 (fun _ _ => by omega)).trans fr44 (fun _ _ => by omega)))⟩
    · refine q_aload_n hc 0 dX2_leastOf_29 rfl ?_
      refine q_aload_n hc 0 dX2_leastOf_30 rfl ?_
      refine q_get hc 11 1 i2 hq9 rfl (by decide) f23 rfl rfl dX2_leastOf_31 ?_
      refine q_iconstN hc 1 dX2_leastOf_34 rfl ?_
      refine q_iload hc 4 dX2_leastOf_35 rfl ?_
      refine q_ishlW hc dX2_leastOf_37 ?_
      refine V.topw (z := ((2 ^ i : Nat) : Int)) (shl1 i (by omega)) ?_
      have hp7 := p2_lt4 i (by omega); have hp6 := p2_pos i
      refine q_rald (j := 2 ^ i) hc 12 hq10 rfl (by omega) (by omega) dX2_leastOf_38 ?_
      refine V.topv (show _ = Value.ref (ad (13 + (2 ^ i))) from rfl) ?_
      refine q_aload_n hc 1 dX2_leastOf_39 rfl ?_
      refine q_get hc (30 + 3 * t) 0 i3 hq11 rfl (by decide) f35 rfl rfl dX2_leastOf_40 ?_
      refine q_iload hc 4 dX2_leastOf_43 rfl ?_
      refine q_ialdN (j := i) hc (31 + 3 * t) hq12 rfl (by omega) (by omega) dX2_leastOf_45 ?_
      have hq53 : u4[13 + (2 ^ i)]? = some (ad (13 + (2 ^ i)), iN K n ((lt1 w n pi rw i) (2 ^ i))) := hq5 (2 ^ i) (by omega)
      refine q_callMv (As := [.ref (ad (13 + (2 ^ i))), .int (iZ ((pi i : Nat) : Int))]) (rest := []) hc (c_X2_fillFromPin l D K u4 ad (13 + (2 ^ i)) (pi i) w h n ((lt1 w n pi rw i) (2 ^ i)) hq7 hq9 hq53 hn hw (by omega) (hpib i)) (cwV 2 hc.1.2.2.2.2 gX2_leastOf_X2_fillFromPin rfl rfl rfl (by decide +kernel) ⟨Nat.le_of_ble_eq_true rfl, Nat.le_of_ble_eq_true rfl⟩) 11 hq9 rfl rfl rfl (by decide) dX2_leastOf_46 ⟨Nat.zero_le _, Nat.zero_le _⟩ (fun u54 hp' => ?_)
      obtain ⟨hq56, fr57⟩ := hp'
      have hq58 := (fr57.at 1 (by omega)).trans hq7
      have hq59 := (fr57.at 5 (by omega)).trans hq8
      have hq60 := (fr57.at 11 (by omega)).trans hq9
      have hq61 := (fr57.at 12 (by omega)).trans hq10
      have hq62 := (fr57.at (30 + 3 * t) (by omega)).trans hq11
      have hq63 := (fr57.at (31 + 3 * t) (by omega)).trans hq12
      have hq64 : ∀ s, s < 16 → u54[13 + s]? = some (ad (13 + s), iN K n ((va_up (lt1 w n pi rw i) (2 ^ i) (mhF w n (pi i))) s)) := fun s hs => by
        by_cases e9 : s = 2 ^ i
        · rw [e9]; simp only [va_up_self]; exact hq56
        · have h8 := (fr57.at (13 + s) (by omega)).trans (hq5 s hs)
          try simp only [va_up_ne _ _ e9] at h8
          simp only [va_up_ne _ _ e9]; exact h8
      refine q_iincN (q := 4) hc 1 [(4, .int (iZ ((i + 1 : Nat) : Int))), (0, .ref (ad 11)), (1, .ref (ad (30 + 3 * t))), (2, .int (iZ ((pn - 1 : Nat) : Int))), (3, .int (iZ ((2 ^ (pn - 1) : Nat) : Int)))] dX2_leastOf_49 rfl rfl (by decide) rfl ?_
      refine q_goto hc 23 dX2_leastOf_52 (by decide) ?_
      refine V.sub [1, 2, 3, 4, 0] rfl ?_
      exact ih23 (i + 1) _ (by omega) ⟨(by omega), (hq64), ((fr6.trans fr57 (fun _ _ => by omega)))⟩
  · have c0 := of_decide_eq_false c3
    have hq65 : ∀ s, s < 16 → ws[13 + s]? = some (ad (13 + s), iN K n ((lsR nb w n pn pi rw) s)) := fun s hs => by have h8 := hR s hs; rw [show lsR nb w n pn pi rw = rw from if_pos (by omega)]; exact h8
    refine q_iconstN hc 0 dX2_leastOf_7 rfl ?_
    exact q_iretM (z := ((0 : Nat) : Int)) hc (⟨congrArg iZ (show ((0 : Nat) : Int) = ((lsV nb w n pn pi rw : Nat) : Int) from by rw [show lsV nb w n pn pi rw = 0 from if_pos (by omega)]), hq65, fr0⟩) hr hlk dX2_leastOf_8
