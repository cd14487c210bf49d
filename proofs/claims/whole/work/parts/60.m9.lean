
set_option maxRecDepth 100000 in
set_option maxHeartbeats 4000000 in
theorem c_X5_least (l : Launch) (D : va_G) (K : Nat → ClassId) (ws : va_W) (ad : Nat → Nat) (num : Int) (w h n th nc rc : Nat) (pn : Nat → Nat) (pi : Nat → Nat → Nat) (le : Nat → Nat) (rw : Nat → Nat → Nat) (h66 : ws[66]? = some (ad 66, mO ad w h th nc rc)) (m69 : ws[69]? = some (ad 69, iN K 12 pn)) (m70 : ws[70]? = some (ad 70, iN K 60 (mP pi))) (m77 : ws[77]? = some (ad 77, iN K 2048 le)) (hW : WH w h n) (hnc : nc ≤ 12) (hnum : -2147483648 ≤ num ∧ num < 2147483648) (hpn : ∀ j, j < nc → pn j ≤ 5) (hpin : ∀ j k, j < nc → k < pn j → pi j k < n) (hok : (0 ≤ num ∧ num < (nc : Int))) : MMi l yX5_least wsX5_least ({ frames := 1, cells := 0, slots := 0, locals := 24 }) D K ws [.ref (ad 66), .int (iZ num)] (fun r u => ∃ (lv2 : Nat → Nat), (r = (iZ ((lsV (nbW w h) w n (pn num.toNat) (pi num.toNat) rw : Nat) : Int))) ∧ (u[66]? = some (ad 66, mO ad w h 0 nc rc)) ∧ (u[77]? = some (ad 77, iN K 2048 lv2)) ∧ (Fr (fun j => j = 66 ∨ j = 77) ws u)) := by
  refine q_entMi RX5 [(0, .ref (ad 66)), (1, .int (iZ num))] (by decide) rfl rfl (Nat.le_of_ble_eq_true rfl) rfl ?_
  intro p e s m args below meth c hc hr hlk
  have i5 : ∀ w ∈ u_ws RX5 TX5 16, w ∈ wsX5_least := by decide +kernel
  have f52 := hc.1.2.2.2.2 (.fieldLink RX5 52 "GlobalRoutesModel" "thrown" "I") (by decide +kernel)
  have f16 := hc.1.2.2.2.2 (.fieldLink RX5 16 "GlobalRoutesModel" "pins" "[I") (by decide +kernel)
  have f45 := hc.1.2.2.2.2 (.fieldLink RX5 45 "GlobalRoutesModel" "width" "I") (by decide +kernel)
  have f49 := hc.1.2.2.2.2 (.fieldLink RX5 49 "GlobalRoutesModel" "height" "I") (by decide +kernel)
  have f42 := hc.1.2.2.2.2 (.fieldLink RX5 42 "GlobalRoutesModel" "leasts" "[I") (by decide +kernel)
  have f19 := hc.1.2.2.2.2 (.fieldLink RX5 19 "GlobalRoutesModel" "pinCells" "[I") (by decide +kernel)
  have k129 : (Jvm.Cond.constant RX5 129 (iZ ((1000000000 : Nat) : Int))).before args s = true := hc.1.2.2.2.2 (.constant RX5 129 (1000000000)) (by decide +kernel)
  have fr0 : Fr (fun j => j = 66 ∨ j = 77) ws ws := Fr.rfl
  have hn := hW.le; have hw2 := hW.1; have hp5 := hpn num.toNat (by omega); have hpi9 : ∀ k, k < pn num.toNat → pi num.toNat k < n := fun k hk => hpin num.toNat k (by omega) hk; have hp32 := p2_le5 (pn num.toNat) (by omega); have hp1 := p2_pos (pn num.toNat)
  refine q_aload_n hc 0 dX5_least_0 rfl ?_
  refine q_iconstN hc 0 dX5_least_1 rfl ?_
  refine q_put (ty := .int) hc 66 0 i5 tyX5 tyX5_ok nmX5 h66 rfl (by decide) f52 rfl rfl (by decide +kernel) rfl rfl (Nat.le_of_ble_eq_true rfl) rfl dX5_least_2 (fun u1 hn' hf' => ?_)
  have hq2 : u1[66]? = some (ad 66, mO ad w h 0 nc rc) := hn'
  have hq3 := (hf' 69 (by omega)).trans m69
  have hq4 := (hf' 70 (by omega)).trans m70
  have hq5 := (hf' 77 (by omega)).trans m77
  have fr6 := Fr.one hf'
  refine q_aload_n hc 0 dX5_least_5 rfl ?_
  refine q_aload_n hc 0 dX5_least_6 rfl ?_
  refine q_iload_n hc 1 dX5_least_7 rfl ?_
  refine q_callPz (As := [.int (iZ num)]) (rest := [.ref (ad 66)]) hc (c_X5_isNet l D K u1 ad w h 0 nc rc num hq2 hnc hnum) (cwV 1 hc.1.2.2.2.2 gX5_least_X5_isNet rfl rfl rfl (by decide +kernel) ⟨Nat.le_of_ble_eq_true rfl, Nat.le_of_ble_eq_true rfl⟩) 66 hq2 rfl rfl rfl (by simp [Value.category]) dX5_least_8 ⟨Nat.zero_le _, Nat.zero_le _⟩ ?_
  refine V.topv (show _ = Value.int (iZ (bZ true)) from by rw [decide_eq_true hok]) ?_
  refine q_ifz_ne hc 18 dX5_least_11 (by decide) (fun c9 => ?_) (fun c9 => ?_)
  · refine q_iconstN hc 0 dX5_least_18 rfl ?_
    refine q_iconstN hc 1 dX5_least_19 rfl ?_
    refine q_callMi (As := [.int (iZ (bZ false)), .int (iZ ((1 : Nat) : Int))]) (rest := []) hc (c_X5_fails l D K u1 ad w h nc rc false 1 hq2 (by omega)) (cwV 2 hc.1.2.2.2.2 gX5_least_X5_fails rfl rfl rfl (by decide +kernel) ⟨Nat.le_of_ble_eq_true rfl, Nat.le_of_ble_eq_true rfl⟩) 66 hq2 rfl rfl rfl (by decide) dX5_least_20 ⟨Nat.zero_le _, Nat.zero_le _⟩ (fun r11 u10 hp' => ?_)
    obtain ⟨hr14, hq12, fr13⟩ := hp'
    have hq15 := (fr13.at 69 (by omega)).trans hq3
    have hq16 := (fr13.at 70 (by omega)).trans hq4
    have hq17 := (fr13.at 77 (by omega)).trans hq5
    subst hr14
    have hq18 : u10[66]? = some (ad 66, mO ad w h 0 nc rc) := hq12
    refine q_ifz_ne hc 36 dX5_least_23 (by decide) (fun c19 => ?_) (fun c19 => ?_)
    · cases c19
    · refine q_aload_n hc 0 dX5_least_26 rfl ?_
      refine q_get hc 66 6 i5 hq18 rfl (by decide) f16 rfl rfl dX5_least_27 ?_
      refine q_iload_n hc 1 dX5_least_30 rfl ?_
      refine V.topi (show _ = ((num.toNat : Nat) : Int) from by omega) ?_
      refine q_ialdN (j := num.toNat) hc 69 hq15 rfl (by omega) (by omega) dX5_least_31 ?_
      refine q_iconstN hc 2 dX5_least_32 rfl ?_
      refine q_icmpN_ge hc 38 dX5_least_33 (by decide) (by omega) (by omega) (fun c20 => ?_) (fun c20 => ?_)
      · refine q_aload_n hc 0 dX5_least_38 rfl ?_
        refine q_get hc 66 1 i5 hq18 rfl (by decide) f45 rfl rfl dX5_least_39 ?_
        refine q_aload_n hc 0 dX5_least_42 rfl ?_
        refine q_get hc 66 2 i5 hq18 rfl (by decide) f49 rfl rfl dX5_least_43 ?_
        refine q_imulN hc dX5_least_46 ?_
        refine V.topi (show _ = ((n : Nat) : Int) from by rw [hW.2]) ?_
        refine q_istore_n hc [(2, .int (iZ ((n : Nat) : Int))), (0, .ref (ad 66)), (1, .int (iZ num))] dX5_least_47 rfl (by decide) rfl ?_
        refine q_iconstN hc 1 dX5_least_48 rfl ?_
        refine q_aload_n hc 1 dX5_least_49 rfl ?_
        refine q_get hc 66 6 i5 hq18 rfl (by decide) f16 rfl rfl dX5_least_50 ?_
        refine q_iload_n hc 2 dX5_least_53 rfl ?_
        refine V.topi (show _ = ((num.toNat : Nat) : Int) from by omega) ?_
        refine q_ialdN (j := num.toNat) hc 69 hq15 rfl (by omega) (by omega) dX5_least_54 ?_
        refine q_ishlW hc dX5_least_55 ?_
        refine V.topw (z := ((2 ^ pn num.toNat : Nat) : Int)) (shl6 _ (by omega)) ?_
        refine q_istore_n hc [(3, .int (iZ ((2 ^ pn num.toNat : Nat) : Int))), (2, .int (iZ ((n : Nat) : Int))), (0, .ref (ad 66)), (1, .int (iZ num))] dX5_least_56 rfl (by decide) rfl ?_
        refine q_iconstN hc 1 dX5_least_57 rfl ?_
        refine q_istore hc [(4, .int (iZ ((1 : Nat) : Int))), (3, .int (iZ ((2 ^ pn num.toNat : Nat) : Int))), (2, .int (iZ ((n : Nat) : Int))), (0, .ref (ad 66)), (1, .int (iZ num))] dX5_least_58 (by decide) rfl ?_
        refine V.sub [3, 4, 2, 1, 0] rfl ?_
        refine V.loop (α := Nat × (Nat → Nat)) (fun x => 2 ^ pn num.toNat - x.1) (fun x u => (1 ≤ x.1) ∧ (x.1 ≤ 2 ^ pn num.toNat) ∧ (∀ m, 1 ≤ m → m < x.1 → Rw w n (pi num.toNat) m (fun z => x.2 (64 * m + z))) ∧ (u[77]? = some (ad 77, iN K 2048 x.2)) ∧ (Fr (fun j => j = 77) u10 u)) (fun x => [(0, .ref (ad 66)), (1, .int (iZ num)), (2, .int (iZ ((n : Nat) : Int))), (3, .int (iZ ((2 ^ pn num.toNat : Nat) : Int))), (4, .int (iZ ((x.1 : Nat) : Int)))]) (1, le) ⟨(Nat.le_refl _), (p2_pos _), (fun m m1 m2 => by omega), (hq17), (Fr.rfl)⟩ rfl ?_
        intro x ih60 u21 hI
        obtain ⟨ss, le1⟩ := x
        try dsimp only at ih60 hI ⊢
        obtain ⟨hs1, hs2, hM, hq22, fr23⟩ := hI
        have hq24 := (fr23.at 66 (by omega)).trans hq18
        have hq25 := (fr23.at 69 (by omega)).trans hq15
        have hq26 := (fr23.at 70 (by omega)).trans hq16
        refine q_iload hc 4 dX5_least_60 rfl ?_
        refine q_iload_n hc 3 dX5_least_62 rfl ?_
        refine q_icmpN_ge hc 336 dX5_least_63 (by decide) (by omega) (by omega) (fun c27 => ?_) (fun c27 => ?_)
        · refine q_aload_n hc 0 dX5_least_336 rfl ?_
          refine q_get hc 66 15 i5 hq24 rfl (by decide) f42 rfl rfl dX5_least_337 ?_
          refine q_bipushN hc 64 dX5_least_340 (by decide +kernel) ?_
          refine q_iload_n hc 3 dX5_least_342 rfl ?_
          refine q_iconstN hc 1 dX5_least_343 rfl ?_
          refine q_isubN hc dX5_least_344 (by omega) ?_
          refine q_imulN hc dX5_least_345 ?_
          refine q_aload_n hc 0 dX5_least_346 rfl ?_
          refine q_get hc 66 7 i5 hq24 rfl (by decide) f19 rfl rfl dX5_least_347 ?_
          refine q_iconstN hc 5 dX5_least_350 rfl ?_
          refine q_iload_n hc 1 dX5_least_351 rfl ?_
          refine V.topi (show _ = ((num.toNat : Nat) : Int) from by omega) ?_
          refine q_imulN hc dX5_least_352 ?_
          refine q_ialdN (j := 5 * num.toNat) hc 70 hq26 rfl (by omega) (by omega) dX5_least_353 ?_
          have hp8 := hpi9 0 (by omega)
          refine V.topi (show _ = ((pi num.toNat 0 : Nat) : Int) from congrArg (fun a : Nat => (a : Int)) (mP_at (b := 0) (by omega))) ?_
          refine q_iaddN hc dX5_least_354 ?_
          refine q_ialdN (j := 64 * ((2 ^ pn num.toNat) - 1) + (pi num.toNat 0)) hc 77 hq22 rfl (by omega) (by omega) dX5_least_355 ?_
          exact q_iretM (z := ((le1 (64 * ((2 ^ pn num.toNat) - 1) + (pi num.toNat 0)) : Nat) : Int)) hc (⟨_, congrArg (fun a : Nat => iZ (a : Int)) (least_eq hW (by omega) hp5 hpi9 (fun m m1 m2 => hM m m1 (by omega))), hq24, hq22, (((fr0.trans fr6 (fun _ _ => by omega)).trans fr13 (fun _ _ => by omega)).trans fr23 (fun _ _ => by omega))⟩) hr hlk dX5_least_356
        · refine q_iconstN hc 0 dX5_least_66 rfl ?_
          refine q_istore hc [(5, .int (iZ ((0 : Nat) : Int))), (0, .ref (ad 66)), (1, .int (iZ num)), (2, .int (iZ ((n : Nat) : Int))), (3, .int (iZ ((2 ^ pn num.toNat : Nat) : Int))), (4, .int (iZ ((ss : Nat) : Int)))] dX5_least_67 (by decide) rfl ?_
          refine V.sub [1, 2, 3, 4, 5, 0] rfl ?_
          refine V.loop (α := Nat × (Nat → Nat)) (fun x => n - x.1) (fun x u => (x.1 ≤ n) ∧ (∀ k, x.2 k = if 64 * ss ≤ k ∧ k < 64 * ss + x.1 then (f0M w (pi num.toNat) (pn num.toNat) le1 ss) (k - 64 * ss) else le1 k) ∧ (u[77]? = some (ad 77, iN K 2048 x.2)) ∧ (Fr (fun j => j = 77) u21 u)) (fun x => [(0, .ref (ad 66)), (1, .int (iZ num)), (2, .int (iZ ((n : Nat) : Int))), (3, .int (iZ ((2 ^ pn num.toNat : Nat) : Int))), (4, .int (iZ ((ss : Nat) : Int))), (5, .int (iZ ((x.1 : Nat) : Int)))]) (0, le1) ⟨(Nat.zero_le _), (fun k => by rw [if_neg (by omega)]), (hq22), (Fr.rfl)⟩ rfl ?_
          intro x ih69 u28 hI
          obtain ⟨cz, le2⟩ := x
          try dsimp only at ih69 hI ⊢
          obtain ⟨hcz, hf2, hq29, fr30⟩ := hI
          have hq31 := (fr30.at 66 (by omega)).trans hq24
          have hq32 := (fr30.at 69 (by omega)).trans hq25
          have hq33 := (fr30.at 70 (by omega)).trans hq26
          refine q_iload hc 5 dX5_least_69 rfl ?_
          refine q_iload_n hc 2 dX5_least_71 rfl ?_
          refine q_icmpN_ge hc 227 dX5_least_72 (by decide) (by omega) (by omega) (fun c34 => ?_) (fun c34 => ?_)
          · refine q_iconstN hc 0 dX5_least_227 rfl ?_
            refine q_istore hc [(5, .int (iZ ((0 : Nat) : Int))), (0, .ref (ad 66)), (1, .int (iZ num)), (2, .int (iZ ((n : Nat) : Int))), (3, .int (iZ ((2 ^ pn num.toNat : Nat) : Int))), (4, .int (iZ ((ss : Nat) : Int)))] dX5_least_228 (by decide) rfl ?_
            obtain rfl : n = cz := by omega
            refine V.sub [1, 2, 3, 4, 5, 0] rfl ?_
            refine V.loop (α := Nat × (Nat → Nat)) (fun x => n - x.1) (fun x u => (x.1 ≤ n) ∧ (Cl w n (f0M w (pi num.toNat) (pn num.toNat) le1 ss) le1 ss x.1 x.2) ∧ (u[77]? = some (ad 77, iN K 2048 x.2)) ∧ (Fr (fun j => j = 77) u28 u)) (fun x => [(0, .ref (ad 66)), (1, .int (iZ num)), (2, .int (iZ ((n : Nat) : Int))), (3, .int (iZ ((2 ^ pn num.toNat : Nat) : Int))), (4, .int (iZ ((ss : Nat) : Int))), (5, .int (iZ ((x.1 : Nat) : Int)))]) (0, le2) ⟨(Nat.zero_le _), (Cl.start hn hf2), (hq29), (Fr.rfl)⟩ rfl ?_
            intro x ih230 u35 hI
            obtain ⟨c3, le3⟩ := x
            try dsimp only at ih230 hI ⊢
            obtain ⟨hc3, hC3, hq36, fr37⟩ := hI
            have hq38 := (fr37.at 66 (by omega)).trans hq31
            have hq39 := (fr37.at 69 (by omega)).trans hq32
            have hq40 := (fr37.at 70 (by omega)).trans hq33
            refine q_iload hc 5 dX5_least_230 rfl ?_
            refine q_iload_n hc 2 dX5_least_232 rfl ?_
            refine q_icmpN_ge hc 330 dX5_least_233 (by decide) (by omega) (by omega) (fun c41 => ?_) (fun c41 => ?_)
            · refine q_iincN (q := 4) hc 1 [(4, .int (iZ ((ss + 1 : Nat) : Int))), (0, .ref (ad 66)), (1, .int (iZ num)), (2, .int (iZ ((n : Nat) : Int))), (3, .int (iZ ((2 ^ pn num.toNat : Nat) : Int))), (5, .int (iZ ((c3 : Nat) : Int)))] dX5_least_330 rfl rfl (by decide) rfl ?_
              refine q_goto hc 60 dX5_least_333 (by decide) ?_
              refine V.sub [1, 2, 3, 4, 0] rfl ?_
              exact ih60 (ss + 1, le3) _ (by omega) ⟨(by omega), (by omega), (fun m m1 m2 => by
                    by_cases e9 : m = ss
                    · subst e9
                      exact rowM ⟨by omega, by omega⟩ hn hp5 hpi9 hs1 (by omega) hM (fun z v hz hv => hC3.2.2.1 z v (by omega) hv) hC3.2.1
                    · exact (hM m m1 (by omega)).congr (fun z hz => hC3.2.2.2 _ (by omega))), (hq36), (((fr23.trans fr30 (fun _ _ => by omega)).trans fr37 (fun _ _ => by omega)))⟩
            · refine q_iconstN hc 0 dX5_least_236 rfl ?_
              refine q_istore hc [(6, .int (iZ ((0 : Nat) : Int))), (0, .ref (ad 66)), (1, .int (iZ num)), (2, .int (iZ ((n : Nat) : Int))), (3, .int (iZ ((2 ^ pn num.toNat : Nat) : Int))), (4, .int (iZ ((ss : Nat) : Int))), (5, .int (iZ ((c3 : Nat) : Int)))] dX5_least_237 (by decide) rfl ?_
              refine V.sub [1, 2, 3, 4, 5, 6, 0] rfl ?_
              refine V.loop (α := Nat × (Nat → Nat)) (fun x => n - x.1) (fun x u => (x.1 ≤ n) ∧ (Cl w n (f0M w (pi num.toNat) (pn num.toNat) le1 ss) le1 ss c3 x.2) ∧ (∀ v, v < x.1 → x.2 (64 * ss + v) ≤ (f0M w (pi num.toNat) (pn num.toNat) le1 ss) c3 + mh w c3 v) ∧ (u[77]? = some (ad 77, iN K 2048 x.2)) ∧ (Fr (fun j => j = 77) u35 u)) (fun x => [(0, .ref (ad 66)), (1, .int (iZ num)), (2, .int (iZ ((n : Nat) : Int))), (3, .int (iZ ((2 ^ pn num.toNat : Nat) : Int))), (4, .int (iZ ((ss : Nat) : Int))), (5, .int (iZ ((c3 : Nat) : Int))), (6, .int (iZ ((x.1 : Nat) : Int)))]) (0, le3) ⟨(Nat.zero_le _), (hC3), (fun v hv => by omega), (hq36), (Fr.rfl)⟩ rfl ?_
              intro x ih239 u42 hI
              obtain ⟨tz, le4⟩ := x
              try dsimp only at ih239 hI ⊢
              obtain ⟨htz, hC4, hD4, hq43, fr44⟩ := hI
              have hq45 := (fr44.at 66 (by omega)).trans hq38
              have hq46 := (fr44.at 69 (by omega)).trans hq39
              have hq47 := (fr44.at 70 (by omega)).trans hq40
              refine q_iload hc 6 dX5_least_239 rfl ?_
              refine q_iload_n hc 2 dX5_least_241 rfl ?_
              refine q_icmpN_ge hc 324 dX5_least_242 (by decide) (by omega) (by omega) (fun c48 => ?_) (fun c48 => ?_)
              · refine q_iincN (q := 5) hc 1 [(5, .int (iZ ((c3 + 1 : Nat) : Int))), (0, .ref (ad 66)), (1, .int (iZ num)), (2, .int (iZ ((n : Nat) : Int))), (3, .int (iZ ((2 ^ pn num.toNat : Nat) : Int))), (4, .int (iZ ((ss : Nat) : Int))), (6, .int (iZ ((tz : Nat) : Int)))] dX5_least_324 rfl rfl (by decide) rfl ?_
                refine q_goto hc 230 dX5_least_327 (by decide) ?_
                refine V.sub [1, 2, 3, 4, 5, 0] rfl ?_
                exact ih230 (c3 + 1, le4) _ (by omega) ⟨(by omega), (hC4.next (fun v hv => hD4 v (by omega))), (hq43), ((fr37.trans fr44 (fun _ _ => by omega)))⟩
              · have q1 := hC4.1 c3 (by omega); have q2 := hC4.1 tz (by omega); have q3 : ∀ z, z < n → (f0M w (pi num.toNat) (pn num.toNat) le1 ss) z ≤ 1000000000 := fun z hz => pbF_bd (sbF_bd ⟨by omega, by omega⟩ hn hz hpi9) _
                have q4 := q3 c3 (by omega); have q5 := q3 tz (by omega); have q6 := mh_bd (w := w) (a := c3) (b := tz) ⟨by omega, by omega⟩ (by omega) (by omega)
                refine q_aload_n hc 0 dX5_least_245 rfl ?_
                refine q_get hc 66 15 i5 hq45 rfl (by decide) f42 rfl rfl dX5_least_246 ?_
                refine q_bipushN hc 64 dX5_least_249 (by decide +kernel) ?_
                refine q_iload hc 4 dX5_least_251 rfl ?_
                refine q_imulN hc dX5_least_253 ?_
                refine q_iload hc 5 dX5_least_254 rfl ?_
                refine q_iaddN hc dX5_least_256 ?_
                refine q_ialdN (j := 64 * ss + c3) hc 77 hq43 rfl (by omega) (by omega) dX5_least_257 ?_
                refine q_aload_n hc 0 dX5_least_258 rfl ?_
                refine q_iload hc 5 dX5_least_259 rfl ?_
                refine q_iload hc 6 dX5_least_261 rfl ?_
                refine q_callPn (As := [.int (iZ ((c3 : Nat) : Int)), .int (iZ ((tz : Nat) : Int))]) (rest := [.int (iZ ((le4 (64 * ss + c3) : Nat) : Int))]) hc (c_X5_straight l D K u42 ad w h 0 nc rc c3 tz hq45 hw2 (by omega)) (cwV 2 hc.1.2.2.2.2 gX5_least_X5_straight rfl rfl rfl (by decide +kernel) ⟨Nat.le_of_ble_eq_true rfl, Nat.le_of_ble_eq_true rfl⟩) 66 hq45 rfl rfl rfl (by simp [Value.category]) dX5_least_263 ⟨Nat.zero_le _, Nat.zero_le _⟩ ?_
                refine q_iaddN hc dX5_least_266 ?_
                refine q_istore hc [(7, .int (iZ ((le4 (64 * ss + c3) + (mh w c3 tz) : Nat) : Int))), (0, .ref (ad 66)), (1, .int (iZ num)), (2, .int (iZ ((n : Nat) : Int))), (3, .int (iZ ((2 ^ pn num.toNat : Nat) : Int))), (4, .int (iZ ((ss : Nat) : Int))), (5, .int (iZ ((c3 : Nat) : Int))), (6, .int (iZ ((tz : Nat) : Int)))] dX5_least_267 (by decide) rfl ?_
                refine q_aload_n hc 1 dX5_least_269 rfl ?_
                refine q_get hc 66 15 i5 hq45 rfl (by decide) f42 rfl rfl dX5_least_270 ?_
                refine q_bipushN hc 64 dX5_least_273 (by decide +kernel) ?_
                refine q_iload hc 5 dX5_least_275 rfl ?_
                refine q_imulN hc dX5_least_277 ?_
                refine q_iload hc 7 dX5_least_278 rfl ?_
                refine q_iaddN hc dX5_least_280 ?_
                refine q_iload hc 0 dX5_least_281 rfl ?_
                refine q_aload_n hc 1 dX5_least_283 rfl ?_
                refine q_get hc 66 15 i5 hq45 rfl (by decide) f42 rfl rfl dX5_least_284 ?_
                refine q_bipushN hc 64 dX5_least_287 (by decide +kernel) ?_
                refine q_iload hc 5 dX5_least_289 rfl ?_
                refine q_imulN hc dX5_least_291 ?_
                refine q_iload hc 7 dX5_least_292 rfl ?_
                refine q_iaddN hc dX5_least_294 ?_
                refine q_ialdN (j := 64 * ss + tz) hc 77 hq43 rfl (by omega) (by omega) dX5_least_295 ?_
                refine q_icmpN_ge hc 304 dX5_least_296 (by decide) (by omega) (by omega) (fun c51 => ?_) (fun c51 => ?_)
                · refine q_aload_n hc 1 dX5_least_304 rfl ?_
                  refine q_get hc 66 15 i5 hq45 rfl (by decide) f42 rfl rfl dX5_least_305 ?_
                  refine q_bipushN hc 64 dX5_least_308 (by decide +kernel) ?_
                  refine q_iload hc 5 dX5_least_310 rfl ?_
                  refine q_imulN hc dX5_least_312 ?_
                  refine q_iload hc 7 dX5_least_313 rfl ?_
                  refine q_iaddN hc dX5_least_315 ?_
                  refine q_ialdN (j := 64 * ss + tz) hc 77 hq43 rfl (by omega) (by omega) dX5_least_316 ?_
                  refine q_iastN (j := 64 * ss + tz) (x := le4 (64 * ss + tz)) hc 77 hq43 rfl (by omega) (by omega) dX5_least_317 (fun u52 hn' hf' => ?_)
                  have hq53 : u52[77]? = some (ad 77, iN K 2048 (va_up le4 (64 * ss + tz) (le4 (64 * ss + tz)))) := hn'
                  have hq54 := (hf' 66 (by omega)).trans hq45
                  have hq55 := (hf' 69 (by omega)).trans hq46
                  have hq56 := (hf' 70 (by omega)).trans hq47
                  have fr57 := Fr.one hf'
                  refine q_iincN (q := 7) hc 1 [(6, .int (iZ ((tz + 1 : Nat) : Int))), (7, .int (iZ ((le4 (64 * ss + c3) + (mh w c3 tz) : Nat) : Int))), (0, .ref (ad 66)), (1, .int (iZ num)), (2, .int (iZ ((n : Nat) : Int))), (3, .int (iZ ((2 ^ pn num.toNat : Nat) : Int))), (4, .int (iZ ((ss : Nat) : Int))), (5, .int (iZ ((c3 : Nat) : Int)))] dX5_least_318 rfl rfl (by decide) rfl ?_
                  refine q_goto hc 239 dX5_least_321 (by decide) ?_
                  refine V.sub [2, 3, 4, 5, 6, 7, 0] rfl ?_
                  exact ih239 (tz + 1, va_up le4 (64 * ss + tz) (le4 (64 * ss + tz))) _ (by omega) ⟨(by omega), ((hC4.step (by omega) (by omega) hD4 (V := le4 (64 * ss + tz)) ⟨Or.inr rfl, Nat.le_refl _, by omega⟩).1), ((hC4.step (by omega) (by omega) hD4 (V := le4 (64 * ss + tz)) ⟨Or.inr rfl, Nat.le_refl _, by omega⟩).2), (hq53), ((fr44.trans fr57 (fun _ _ => by omega)))⟩
                · refine q_iload hc 0 dX5_least_299 rfl ?_
                  refine q_goto hc 317 dX5_least_301 (by decide) ?_
                  refine q_iastN (j := 64 * ss + tz) (x := le4 (64 * ss + c3) + (mh w c3 tz)) hc 77 hq43 rfl (by omega) (by omega) dX5_least_317 (fun u58 hn' hf' => ?_)
                  have hq59 : u58[77]? = some (ad 77, iN K 2048 (va_up le4 (64 * ss + tz) (le4 (64 * ss + c3) + (mh w c3 tz)))) := hn'
                  have hq60 := (hf' 66 (by omega)).trans hq45
                  have hq61 := (hf' 69 (by omega)).trans hq46
                  have hq62 := (hf' 70 (by omega)).trans hq47
                  have fr63 := Fr.one hf'
                  refine q_iincN (q := 7) hc 1 [(6, .int (iZ ((tz + 1 : Nat) : Int))), (7, .int (iZ ((le4 (64 * ss + c3) + (mh w c3 tz) : Nat) : Int))), (0, .ref (ad 66)), (1, .int (iZ num)), (2, .int (iZ ((n : Nat) : Int))), (3, .int (iZ ((2 ^ pn num.toNat : Nat) : Int))), (4, .int (iZ ((ss : Nat) : Int))), (5, .int (iZ ((c3 : Nat) : Int)))] dX5_least_318 rfl rfl (by decide) rfl ?_
                  refine q_goto hc 239 dX5_least_321 (by decide) ?_
                  refine V.sub [2, 3, 4, 5, 6, 7, 0] rfl ?_
                  exact ih239 (tz + 1, va_up le4 (64 * ss + tz) (le4 (64 * ss + c3) + (mh w c3 tz))) _ (by omega) ⟨(by omega), ((hC4.step (by omega) (by omega) hD4 (V := le4 (64 * ss + c3) + mh w c3 tz) ⟨Or.inl rfl, by omega, Nat.le_refl _⟩).1), ((hC4.step (by omega) (by omega) hD4 (V := le4 (64 * ss + c3) + mh w c3 tz) ⟨Or.inl rfl, by omega, Nat.le_refl _⟩).2), (hq59), ((fr44.trans fr63 (fun _ _ => by omega)))⟩
          · refine q_ldc (z := ((1000000000 : Nat) : Int)) hc dX5_least_75 k129 ?_
            refine q_istore hc [(6, .int (iZ ((1000000000 : Nat) : Int))), (0, .ref (ad 66)), (1, .int (iZ num)), (2, .int (iZ ((n : Nat) : Int))), (3, .int (iZ ((2 ^ pn num.toNat : Nat) : Int))), (4, .int (iZ ((ss : Nat) : Int))), (5, .int (iZ ((cz : Nat) : Int)))] dX5_least_77 (by decide) rfl ?_
            refine q_iconstN hc 0 dX5_least_79 rfl ?_
            refine q_istore hc [(7, .int (iZ ((0 : Nat) : Int))), (6, .int (iZ ((1000000000 : Nat) : Int))), (0, .ref (ad 66)), (1, .int (iZ num)), (2, .int (iZ ((n : Nat) : Int))), (3, .int (iZ ((2 ^ pn num.toNat : Nat) : Int))), (4, .int (iZ ((ss : Nat) : Int))), (5, .int (iZ ((cz : Nat) : Int)))] dX5_least_80 (by decide) rfl ?_
            refine V.sub [2, 3, 4, 5, 6, 7, 1, 0] rfl ?_
            refine V.loopP (α := Nat × Nat) (fun x => pn num.toNat - x.1) (fun x => (x.1 ≤ pn num.toNat) ∧ (x.2 = sbF w (pi num.toNat) ss cz x.1)) (fun x => [(0, .ref (ad 66)), (1, .int (iZ num)), (2, .int (iZ ((n : Nat) : Int))), (3, .int (iZ ((2 ^ pn num.toNat : Nat) : Int))), (4, .int (iZ ((ss : Nat) : Int))), (5, .int (iZ ((cz : Nat) : Int))), (6, .int (iZ ((x.2 : Nat) : Int))), (7, .int (iZ ((x.1 : Nat) : Int)))]) (0, 1000000000) ⟨(Nat.zero_le _), (rfl)⟩ rfl ?_
            intro x ih82 hI
            obtain ⟨k, b0⟩ := x
            try dsimp only at ih82 hI ⊢
            obtain ⟨hk, hb0⟩ := hI
            refine q_iload hc 7 dX5_least_82 rfl ?_
            refine q_aload_n hc 0 dX5_least_84 rfl ?_
            refine q_get hc 66 6 i5 hq31 rfl (by decide) f16 rfl rfl dX5_least_85 ?_
            refine q_iload_n hc 1 dX5_least_88 rfl ?_
            refine V.topi (show _ = ((num.toNat : Nat) : Int) from by omega) ?_
            refine q_ialdN (j := num.toNat) hc 69 hq32 rfl (by omega) (by omega) dX5_least_89 ?_
            refine q_icmpN_ge hc 127 dX5_least_90 (by decide) (by omega) (by omega) (fun c65 => ?_) (fun c65 => ?_)
            · refine q_iconstN hc 1 dX5_least_127 rfl ?_
              refine q_istore hc [(7, .int (iZ ((1 : Nat) : Int))), (0, .ref (ad 66)), (1, .int (iZ num)), (2, .int (iZ ((n : Nat) : Int))), (3, .int (iZ ((2 ^ pn num.toNat : Nat) : Int))), (4, .int (iZ ((ss : Nat) : Int))), (5, .int (iZ ((cz : Nat) : Int))), (6, .int (iZ ((b0 : Nat) : Int)))] dX5_least_128 (by decide) rfl ?_
              obtain rfl : k = pn num.toNat := by omega
              have hb9 : b0 ≤ 1000000000 := by rw [hb0]; exact sbF_bd ⟨by omega, by omega⟩ hn (by omega) hpi9
              refine V.sub [1, 2, 3, 4, 5, 6, 7, 0] rfl ?_
              refine V.loopP (α := Nat × Nat) (fun x => ss - (x.1 + 1)) (fun x => (x.1 + 1 ≤ ss) ∧ (x.2 = pbF le1 ss cz b0 x.1)) (fun x => [(0, .ref (ad 66)), (1, .int (iZ num)), (2, .int (iZ ((n : Nat) : Int))), (3, .int (iZ ((2 ^ pn num.toNat : Nat) : Int))), (4, .int (iZ ((ss : Nat) : Int))), (5, .int (iZ ((cz : Nat) : Int))), (6, .int (iZ ((x.2 : Nat) : Int))), (7, .int (iZ ((x.1 + 1 : Nat) : Int)))]) (0, b0) ⟨(by omega), (rfl)⟩ rfl ?_
              intro x ih130 hI
              obtain ⟨j, b1⟩ := x
              try dsimp only at ih130 hI ⊢
              obtain ⟨hj, hb1⟩ := hI
              refine q_iload hc 7 dX5_least_130 rfl ?_
              refine q_iload hc 4 dX5_least_132 rfl ?_
              refine q_icmpN_ge hc 206 dX5_least_134 (by decide) (by omega) (by omega) (fun c67 => ?_) (fun c67 => ?_)
              · have hE1 : b1 = (f0M w (pi num.toNat) (pn num.toNat) le1 ss) cz := by rw [hb1, hb0, show j = ss - 1 by omega]; rfl
                refine q_aload_n hc 0 dX5_least_206 rfl ?_
                refine q_get hc 66 15 i5 hq31 rfl (by decide) f42 rfl rfl dX5_least_207 ?_
                refine q_bipushN hc 64 dX5_least_210 (by decide +kernel) ?_
                refine q_iload hc 4 dX5_least_212 rfl ?_
                refine q_imulN hc dX5_least_214 ?_
                refine q_iload hc 5 dX5_least_215 rfl ?_
                refine q_iaddN hc dX5_least_217 ?_
                refine q_iload hc 6 dX5_least_218 rfl ?_
                refine q_iastN (j := 64 * ss + cz) (x := b1) hc 77 hq29 rfl (by omega) (by omega) dX5_least_220 (fun u68 hn' hf' => ?_)
                have hq69 : u68[77]? = some (ad 77, iN K 2048 (va_up le2 (64 * ss + cz) b1)) := hn'
                have hq70 := (hf' 66 (by omega)).trans hq31
                have hq71 := (hf' 69 (by omega)).trans hq32
                have hq72 := (hf' 70 (by omega)).trans hq33
                have fr73 := Fr.one hf'
                refine q_iincN (q := 5) hc 1 [(5, .int (iZ ((cz + 1 : Nat) : Int))), (0, .ref (ad 66)), (1, .int (iZ num)), (2, .int (iZ ((n : Nat) : Int))), (3, .int (iZ ((2 ^ pn num.toNat : Nat) : Int))), (4, .int (iZ ((ss : Nat) : Int))), (6, .int (iZ ((b1 : Nat) : Int))), (7, .int (iZ ((j + 1 : Nat) : Int)))] dX5_least_221 rfl rfl (by decide) rfl ?_
                refine q_goto hc 69 dX5_least_224 (by decide) ?_
                refine V.sub [1, 2, 3, 4, 5, 0] rfl ?_
                exact ih69 (cz + 1, va_up le2 (64 * ss + cz) b1) _ (by omega) ⟨(by omega), (by rw [hE1]; exact f0_up hf2), (hq69), ((fr30.trans fr73 (fun _ _ => by omega)))⟩
              · have hb8 : b1 ≤ 1000000000 := by rw [hb1]; exact pbF_bd hb9 j
                refine q_iload hc 7 dX5_least_137 rfl ?_
                refine q_iload hc 4 dX5_least_139 rfl ?_
                refine q_iandW hc dX5_least_141 ?_
                refine V.topw (z := (((j + 1) &&& ss : Nat) : Int)) (and5 _ (by omega) _ (by omega)) ?_
                refine q_iload hc 7 dX5_least_142 rfl ?_
                have ha9 := Nat.and_le_left (n := j + 1) (m := ss)
                refine q_icmpN_ne hc 180 dX5_least_144 (by decide) (by omega) (by omega) (fun c74 => ?_) (fun c74 => ?_)
                · refine q_ldc (z := ((1000000000 : Nat) : Int)) hc dX5_least_180 k129 ?_
                  refine V.topi (show _ = ((pv le1 ss cz (j + 1) : Nat) : Int) from congrArg (fun a : Nat => (a : Int)) (by unfold pv; rw [if_neg (by omega)])) ?_
                  have hv9 : pv le1 ss cz (j + 1) ≤ 1000000000 := by unfold pv; rw [if_neg (by omega)]; omega
                  refine q_istore hc [(8, .int (iZ ((pv le1 ss cz (j + 1) : Nat) : Int))), (0, .ref (ad 66)), (1, .int (iZ num)), (2, .int (iZ ((n : Nat) : Int))), (3, .int (iZ ((2 ^ pn num.toNat : Nat) : Int))), (4, .int (iZ ((ss : Nat) : Int))), (5, .int (iZ ((cz : Nat) : Int))), (6, .int (iZ ((b1 : Nat) : Int))), (7, .int (iZ ((j + 1 : Nat) : Int)))] dX5_least_182 (by decide) rfl ?_
                  refine q_iload hc 0 dX5_least_184 rfl ?_
                  refine q_iload hc 7 dX5_least_186 rfl ?_
                  refine q_icmpN_ge hc 196 dX5_least_188 (by decide) (by omega) (by omega) (fun c75 => ?_) (fun c75 => ?_)
                  · refine q_iload hc 7 dX5_least_196 rfl ?_
                    refine q_istore hc [(6, .int (iZ ((b1 : Nat) : Int))), (8, .int (iZ ((pv le1 ss cz (j + 1) : Nat) : Int))), (0, .ref (ad 66)), (1, .int (iZ num)), (2, .int (iZ ((n : Nat) : Int))), (3, .int (iZ ((2 ^ pn num.toNat : Nat) : Int))), (4, .int (iZ ((ss : Nat) : Int))), (5, .int (iZ ((cz : Nat) : Int))), (7, .int (iZ ((j + 1 : Nat) : Int)))] dX5_least_198 (by decide) rfl ?_
                    refine q_iincN (q := 8) hc 1 [(7, .int (iZ ((j + 1 + 1 : Nat) : Int))), (6, .int (iZ ((b1 : Nat) : Int))), (8, .int (iZ ((pv le1 ss cz (j + 1) : Nat) : Int))), (0, .ref (ad 66)), (1, .int (iZ num)), (2, .int (iZ ((n : Nat) : Int))), (3, .int (iZ ((2 ^ pn num.toNat : Nat) : Int))), (4, .int (iZ ((ss : Nat) : Int))), (5, .int (iZ ((cz : Nat) : Int)))] dX5_least_200 rfl rfl (by decide) rfl ?_
                    refine q_goto hc 130 dX5_least_203 (by decide) ?_
                    refine V.sub [3, 4, 5, 6, 7, 8, 1, 0] rfl ?_
                    exact ih130 (j + 1, b1) (by omega) ⟨(by omega), (by show _ = (if pv le1 ss cz (j + 1) < pbF le1 ss cz b0 j then _ else _); rw [← hb1, if_neg (by omega)])⟩
                  · refine q_iload hc 0 dX5_least_191 rfl ?_
                    refine q_goto hc 198 dX5_least_193 (by decide) ?_
                    refine q_istore hc [(6, .int (iZ ((pv le1 ss cz (j + 1) : Nat) : Int))), (8, .int (iZ ((pv le1 ss cz (j + 1) : Nat) : Int))), (0, .ref (ad 66)), (1, .int (iZ num)), (2, .int (iZ ((n : Nat) : Int))), (3, .int (iZ ((2 ^ pn num.toNat : Nat) : Int))), (4, .int (iZ ((ss : Nat) : Int))), (5, .int (iZ ((cz : Nat) : Int))), (7, .int (iZ ((j + 1 : Nat) : Int)))] dX5_least_198 (by decide) rfl ?_
                    refine q_iincN (q := 8) hc 1 [(7, .int (iZ ((j + 1 + 1 : Nat) : Int))), (6, .int (iZ ((pv le1 ss cz (j + 1) : Nat) : Int))), (8, .int (iZ ((pv le1 ss cz (j + 1) : Nat) : Int))), (0, .ref (ad 66)), (1, .int (iZ num)), (2, .int (iZ ((n : Nat) : Int))), (3, .int (iZ ((2 ^ pn num.toNat : Nat) : Int))), (4, .int (iZ ((ss : Nat) : Int))), (5, .int (iZ ((cz : Nat) : Int)))] dX5_least_200 rfl rfl (by decide) rfl ?_
                    refine q_goto hc 130 dX5_least_203 (by decide) ?_
                    refine V.sub [3, 4, 5, 6, 7, 8, 1, 0] rfl ?_
                    exact ih130 (j + 1, pv le1 ss cz (j + 1)) (by omega) ⟨(by omega), (by show _ = (if pv le1 ss cz (j + 1) < pbF le1 ss cz b0 j then _ else _); rw [← hb1, if_pos (by omega)])⟩
                · have hx9 := sub_xor ss (by omega) (j + 1) (by omega) (by omega)
                  have e1 : le2 (64 * (j + 1) + cz) = le1 (64 * (j + 1) + cz) := by rw [hf2, if_neg (by omega)]
                  have e2 : le2 (64 * (ss ^^^ (j + 1)) + cz) = le1 (64 * (ss ^^^ (j + 1)) + cz) := by rw [hf2, if_neg (by omega)]
                  have r1 := (hM (j + 1) (by omega) (by omega) cz (by omega)).2; have r2 := (hM (ss ^^^ (j + 1)) (by omega) (by omega) cz (by omega)).2
                  have r1 : le1 (64 * (j + 1) + cz) ≤ 128 * (j + 1) := r1; have r2 : le1 (64 * (ss ^^^ (j + 1)) + cz) ≤ 128 * (ss ^^^ (j + 1)) := r2
                  refine q_aload_n hc 0 dX5_least_147 rfl ?_
                  refine q_get hc 66 15 i5 hq31 rfl (by decide) f42 rfl rfl dX5_least_148 ?_
                  refine q_bipushN hc 64 dX5_least_151 (by decide +kernel) ?_
                  refine q_iload hc 7 dX5_least_153 rfl ?_
                  refine q_imulN hc dX5_least_155 ?_
                  refine q_iload hc 5 dX5_least_156 rfl ?_
                  refine q_iaddN hc dX5_least_158 ?_
                  refine q_ialdN (j := 64 * (j + 1) + cz) hc 77 hq29 rfl (by omega) (by omega) dX5_least_159 ?_
                  refine q_aload_n hc 0 dX5_least_160 rfl ?_
                  refine q_get hc 66 15 i5 hq31 rfl (by decide) f42 rfl rfl dX5_least_161 ?_
                  refine q_bipushN hc 64 dX5_least_164 (by decide +kernel) ?_
                  refine q_iload hc 4 dX5_least_166 rfl ?_
                  refine q_iload hc 7 dX5_least_168 rfl ?_
                  refine q_ixorW hc dX5_least_170 ?_
                  refine V.topw (z := ((ss ^^^ (j + 1) : Nat) : Int)) (xor5 _ (by omega) _ (by omega)) ?_
                  refine q_imulN hc dX5_least_171 ?_
                  refine q_iload hc 5 dX5_least_172 rfl ?_
                  refine q_iaddN hc dX5_least_174 ?_
                  refine q_ialdN (j := 64 * (ss ^^^ (j + 1)) + cz) hc 77 hq29 rfl (by omega) (by omega) dX5_least_175 ?_
                  refine q_iaddN hc dX5_least_176 ?_
                  refine q_goto hc 182 dX5_least_177 (by decide) ?_
                  refine V.topi (show _ = ((pv le1 ss cz (j + 1) : Nat) : Int) from congrArg (fun a : Nat => (a : Int)) (by unfold pv; rw [if_pos (by omega), e1, e2])) ?_
                  have hv9 : pv le1 ss cz (j + 1) ≤ 1000000000 := by unfold pv; rw [if_pos (by omega)]; omega
                  refine q_istore hc [(8, .int (iZ ((pv le1 ss cz (j + 1) : Nat) : Int))), (0, .ref (ad 66)), (1, .int (iZ num)), (2, .int (iZ ((n : Nat) : Int))), (3, .int (iZ ((2 ^ pn num.toNat : Nat) : Int))), (4, .int (iZ ((ss : Nat) : Int))), (5, .int (iZ ((cz : Nat) : Int))), (6, .int (iZ ((b1 : Nat) : Int))), (7, .int (iZ ((j + 1 : Nat) : Int)))] dX5_least_182 (by decide) rfl ?_
                  refine q_iload hc 0 dX5_least_184 rfl ?_
                  refine q_iload hc 7 dX5_least_186 rfl ?_
                  refine q_icmpN_ge hc 196 dX5_least_188 (by decide) (by omega) (by omega) (fun c76 => ?_) (fun c76 => ?_)
                  · refine q_iload hc 7 dX5_least_196 rfl ?_
                    refine q_istore hc [(6, .int (iZ ((b1 : Nat) : Int))), (8, .int (iZ ((pv le1 ss cz (j + 1) : Nat) : Int))), (0, .ref (ad 66)), (1, .int (iZ num)), (2, .int (iZ ((n : Nat) : Int))), (3, .int (iZ ((2 ^ pn num.toNat : Nat) : Int))), (4, .int (iZ ((ss : Nat) : Int))), (5, .int (iZ ((cz : Nat) : Int))), (7, .int (iZ ((j + 1 : Nat) : Int)))] dX5_least_198 (by decide) rfl ?_
                    refine q_iincN (q := 8) hc 1 [(7, .int (iZ ((j + 1 + 1 : Nat) : Int))), (6, .int (iZ ((b1 : Nat) : Int))), (8, .int (iZ ((pv le1 ss cz (j + 1) : Nat) : Int))), (0, .ref (ad 66)), (1, .int (iZ num)), (2, .int (iZ ((n : Nat) : Int))), (3, .int (iZ ((2 ^ pn num.toNat : Nat) : Int))), (4, .int (iZ ((ss : Nat) : Int))), (5, .int (iZ ((cz : Nat) : Int)))] dX5_least_200 rfl rfl (by decide) rfl ?_
                    refine q_goto hc 130 dX5_least_203 (by decide) ?_
                    refine V.sub [3, 4, 5, 6, 7, 8, 1, 0] rfl ?_
                    exact ih130 (j + 1, b1) (by omega) ⟨(by omega), (by show _ = (if pv le1 ss cz (j + 1) < pbF le1 ss cz b0 j then _ else _); rw [← hb1, if_neg (by omega)])⟩
                  · refine q_iload hc 0 dX5_least_191 rfl ?_
                    refine q_goto hc 198 dX5_least_193 (by decide) ?_
                    refine q_istore hc [(6, .int (iZ ((pv le1 ss cz (j + 1) : Nat) : Int))), (8, .int (iZ ((pv le1 ss cz (j + 1) : Nat) : Int))), (0, .ref (ad 66)), (1, .int (iZ num)), (2, .int (iZ ((n : Nat) : Int))), (3, .int (iZ ((2 ^ pn num.toNat : Nat) : Int))), (4, .int (iZ ((ss : Nat) : Int))), (5, .int (iZ ((cz : Nat) : Int))), (7, .int (iZ ((j + 1 : Nat) : Int)))] dX5_least_198 (by decide) rfl ?_
                    refine q_iincN (q := 8) hc 1 [(7, .int (iZ ((j + 1 + 1 : Nat) : Int))), (6, .int (iZ ((pv le1 ss cz (j + 1) : Nat) : Int))), (8, .int (iZ ((pv le1 ss cz (j + 1) : Nat) : Int))), (0, .ref (ad 66)), (1, .int (iZ num)), (2, .int (iZ ((n : Nat) : Int))), (3, .int (iZ ((2 ^ pn num.toNat : Nat) : Int))), (4, .int (iZ ((ss : Nat) : Int))), (5, .int (iZ ((cz : Nat) : Int)))] dX5_least_200 rfl rfl (by decide) rfl ?_
                    refine q_goto hc 130 dX5_least_203 (by decide) ?_
                    refine V.sub [3, 4, 5, 6, 7, 8, 1, 0] rfl ?_
                    exact ih130 (j + 1, pv le1 ss cz (j + 1)) (by omega) ⟨(by omega), (by show _ = (if pv le1 ss cz (j + 1) < pbF le1 ss cz b0 j then _ else _); rw [← hb1, if_pos (by omega)])⟩
            · have hp7 := p2_lt k (by omega)
              refine q_iload hc 4 dX5_least_93 rfl ?_
              refine q_iconstN hc 1 dX5_least_95 rfl ?_
              refine q_iload hc 7 dX5_least_96 rfl ?_
              refine q_ishlW hc dX5_least_98 ?_
              refine V.topw (z := ((2 ^ k : Nat) : Int)) (shl1 k (by omega)) ?_
              refine q_icmpN_ne hc 121 dX5_least_99 (by decide) (by omega) (by omega) (fun c77 => ?_) (fun c77 => ?_)
              · refine q_iincN (q := 7) hc 1 [(7, .int (iZ ((k + 1 : Nat) : Int))), (0, .ref (ad 66)), (1, .int (iZ num)), (2, .int (iZ ((n : Nat) : Int))), (3, .int (iZ ((2 ^ pn num.toNat : Nat) : Int))), (4, .int (iZ ((ss : Nat) : Int))), (5, .int (iZ ((cz : Nat) : Int))), (6, .int (iZ ((b0 : Nat) : Int)))] dX5_least_121 rfl rfl (by decide) rfl ?_
                refine q_goto hc 82 dX5_least_124 (by decide) ?_
                refine V.sub [1, 2, 3, 4, 5, 6, 7, 0] rfl ?_
                exact ih82 (k + 1, b0) (by omega) ⟨(by omega), (by show _ = (if ss = 2 ^ k then _ else _); rw [if_neg c77]; exact hb0)⟩
              · refine q_aload_n hc 0 dX5_least_102 rfl ?_
                refine q_iload hc 5 dX5_least_103 rfl ?_
                refine q_aload_n hc 0 dX5_least_105 rfl ?_
                refine q_get hc 66 7 i5 hq31 rfl (by decide) f19 rfl rfl dX5_least_106 ?_
                refine q_iconstN hc 5 dX5_least_109 rfl ?_
                refine q_iload_n hc 1 dX5_least_110 rfl ?_
                refine V.topi (show _ = ((num.toNat : Nat) : Int) from by omega) ?_
                refine q_imulN hc dX5_least_111 ?_
                refine q_iload hc 7 dX5_least_112 rfl ?_
                refine q_iaddN hc dX5_least_114 ?_
                refine q_ialdN (j := 5 * num.toNat + k) hc 70 hq33 rfl (by omega) (by omega) dX5_least_115 ?_
                refine V.topi (show _ = ((pi num.toNat k : Nat) : Int) from congrArg (fun a : Nat => (a : Int)) (mP_at (by omega))) ?_
                have hp8 := hpi9 k (by omega)
                refine q_callPn (As := [.int (iZ ((cz : Nat) : Int)), .int (iZ ((pi num.toNat k : Nat) : Int))]) (rest := []) hc (c_X5_straight l D K u28 ad w h 0 nc rc cz (pi num.toNat k) hq31 hw2 (by omega)) (cwV 2 hc.1.2.2.2.2 gX5_least_X5_straight rfl rfl rfl (by decide +kernel) ⟨Nat.le_of_ble_eq_true rfl, Nat.le_of_ble_eq_true rfl⟩) 66 hq31 rfl rfl rfl (by decide) dX5_least_116 ⟨Nat.zero_le _, Nat.zero_le _⟩ ?_
                refine q_istore hc [(6, .int (iZ ((mh w cz (pi num.toNat k) : Nat) : Int))), (0, .ref (ad 66)), (1, .int (iZ num)), (2, .int (iZ ((n : Nat) : Int))), (3, .int (iZ ((2 ^ pn num.toNat : Nat) : Int))), (4, .int (iZ ((ss : Nat) : Int))), (5, .int (iZ ((cz : Nat) : Int))), (7, .int (iZ ((k : Nat) : Int)))] dX5_least_119 (by decide) rfl ?_
                refine q_iincN (q := 7) hc 1 [(7, .int (iZ ((k + 1 : Nat) : Int))), (6, .int (iZ ((mh w cz (pi num.toNat k) : Nat) : Int))), (0, .ref (ad 66)), (1, .int (iZ num)), (2, .int (iZ ((n : Nat) : Int))), (3, .int (iZ ((2 ^ pn num.toNat : Nat) : Int))), (4, .int (iZ ((ss : Nat) : Int))), (5, .int (iZ ((cz : Nat) : Int)))] dX5_least_121 rfl rfl (by decide) rfl ?_
                refine q_goto hc 82 dX5_least_124 (by decide) ?_
                refine V.sub [2, 3, 4, 5, 6, 7, 1, 0] rfl ?_
                exact ih82 (k + 1, mh w cz (pi num.toNat k)) (by omega) ⟨(by omega), (by show _ = (if ss = 2 ^ k then _ else _); rw [if_pos (by omega)])⟩
      · refine q_iconstN hc 0 dX5_least_36 rfl ?_
        exact q_iretM (z := ((0 : Nat) : Int)) hc (⟨_, congrArg (fun a : Nat => iZ (a : Int)) (show 0 = lsV (nbW w h) w n (pn num.toNat) (pi num.toNat) rw from (if_pos (by omega)).symm), hq18, hq17, ((fr0.trans fr6 (fun _ _ => by omega)).trans fr13 (fun _ _ => by omega))⟩) hr hlk dX5_least_37
  · cases c9
