
set_option maxRecDepth 100000 in
set_option maxHeartbeats 4000000 in
theorem c_X5_told (l : Launch) (D : va_G) (K : Nat → ClassId) (ws : va_W) (ad : Nat → Nat) (w h n th nc rc : Nat) (what : Int) (c0 : Nat) (cap us : Nat → Nat) (rl : Nat → Int) (ro : Nat → Nat → Bool) (h66 : ws[66]? = some (ad 66, mO ad w h th nc rc)) (m67 : ws[67]? = some (ad 67, iN K 128 (mA n c0 cap))) (m71 : ws[71]? = some (ad 71, zA K 12 (mHr rl))) (m72 : ws[72]? = some (ad 72, zA K 1536 (mRo n ro))) (hwhat : -2147483648 ≤ what ∧ what < 2147483648) (hn : n ≤ 64) (hnc : nc ≤ 12) (hUC : UC n nc us ro) (hc0 : c0 ≤ 20) (hcap : ∀ k, k < 2 * n → cap k ≤ 20) (hus : ∀ k, k < 2 * n → us k ≤ 12) (hRL : RLc n nc ro rl) (hR0 : RO0 n nc ro rl) (hwt : 0 ≤ what ∧ what < 8) : MMi l yX5_told wsX5_told ({ frames := 2, cells := 0, slots := 0, locals := 45 }) D K ws [.ref (ad 66), .int (iZ what)] (fun r u => (r = (iZ ((tdV w h n nc rc cap us rl what.toNat : Nat) : Int))) ∧ (u[66]? = some (ad 66, mO ad w h 0 nc rc)) ∧ (Fr (fun j => j = 66) ws u)) := by
  refine q_entMi RX5 [(0, .ref (ad 66)), (1, .int (iZ what))] (by decide) rfl rfl (Nat.le_of_ble_eq_true rfl) rfl ?_
  intro p e s m args below meth c hc hr hlk
  have i5 : ∀ w ∈ u_ws RX5 TX5 16, w ∈ wsX5_told := by decide +kernel
  have f52 := hc.1.2.2.2.2 (.fieldLink RX5 52 "GlobalRoutesModel" "thrown" "I") (by decide +kernel)
  have f63 := hc.1.2.2.2.2 (.fieldLink RX5 63 "GlobalRoutesModel" "nets" "I") (by decide +kernel)
  have f22 := hc.1.2.2.2.2 (.fieldLink RX5 22 "GlobalRoutesModel" "hasRoute" "[Z") (by decide +kernel)
  have f45 := hc.1.2.2.2.2 (.fieldLink RX5 45 "GlobalRoutesModel" "width" "I") (by decide +kernel)
  have f49 := hc.1.2.2.2.2 (.fieldLink RX5 49 "GlobalRoutesModel" "height" "I") (by decide +kernel)
  have f123 := hc.1.2.2.2.2 (.fieldLink RX5 123 "GlobalRoutesModel" "rounds" "I") (by decide +kernel)
  have fr0 : Fr (fun j => j = 66) ws ws := Fr.rfl
  refine q_aload_n hc 0 dX5_told_0 rfl ?_
  refine q_iconstN hc 0 dX5_told_1 rfl ?_
  refine q_put (ty := .int) hc 66 0 i5 tyX5 tyX5_ok nmX5 h66 rfl (by decide) f52 rfl rfl (by decide +kernel) rfl rfl (Nat.le_of_ble_eq_true rfl) rfl dX5_told_2 (fun u1 hn' hf' => ?_)
  have hq2 : u1[66]? = some (ad 66, mO ad w h 0 nc rc) := hn'
  have hq3 := (hf' 67 (by omega)).trans m67
  have hq4 := (hf' 71 (by omega)).trans m71
  have hq5 := (hf' 72 (by omega)).trans m72
  have fr6 := Fr.one hf'
  refine q_aload_n hc 0 dX5_told_5 rfl ?_
  refine q_iload_n hc 1 dX5_told_6 rfl ?_
  refine q_if_lt hc 16 dX5_told_7 (by decide) (by omega) (fun c7 => ?_) (fun c7 => ?_)
  · exact absurd c7 (by omega)
  · refine q_iload_n hc 1 dX5_told_10 rfl ?_
    refine q_bipushN hc 7 dX5_told_11 (by decide +kernel) ?_
    refine q_icmp_le hc 20 dX5_told_13 (by decide) (by omega) (by omega) (fun c8 => ?_) (fun c8 => ?_)
    · refine q_iconstN hc 0 dX5_told_20 rfl ?_
      refine q_iconstN hc 1 dX5_told_21 rfl ?_
      refine q_callMi (As := [.int (iZ (bZ false)), .int (iZ ((1 : Nat) : Int))]) (rest := []) hc (c_X5_fails l D K u1 ad w h nc rc false 1 hq2 (by omega)) (cwV 2 hc.1.2.2.2.2 gX5_told_X5_fails rfl rfl rfl (by decide +kernel) ⟨Nat.le_of_ble_eq_true rfl, Nat.le_of_ble_eq_true rfl⟩) 66 hq2 rfl rfl rfl (by decide) dX5_told_22 ⟨Nat.zero_le _, Nat.zero_le _⟩ (fun r10 u9 hp' => ?_)
      obtain ⟨hr13, hq11, fr12⟩ := hp'
      have hq14 := (fr12.at 67 (by omega)).trans hq3
      have hq15 := (fr12.at 71 (by omega)).trans hq4
      have hq16 := (fr12.at 72 (by omega)).trans hq5
      subst hr13
      have hq17 : u9[66]? = some (ad 66, mO ad w h 0 nc rc) := hq11
      refine q_ifz_eq hc 30 dX5_told_25 (by decide) (fun c18 => ?_) (fun c18 => ?_)
      · refine q_iconstN hc 0 dX5_told_30 rfl ?_
        refine q_istore_n hc [(2, .int (iZ ((0 : Nat) : Int))), (0, .ref (ad 66)), (1, .int (iZ what))] dX5_told_31 rfl (by decide) rfl ?_
        refine q_iload_n hc 2 dX5_told_32 rfl ?_
        by_cases e0 : what = ((0 : Nat) : Int)
        · subst e0
          refine q_tabIn (j := 0) hc 76 dX5_told_33 (by decide) (by decide) rfl (by decide) ?_
          refine q_aload_n hc 1 dX5_told_76 rfl ?_
          refine q_get hc 66 5 i5 hq17 rfl (by decide) f63 rfl rfl dX5_told_77 ?_
          exact q_iretM (z := ((nc : Nat) : Int)) hc (⟨congrArg (fun a : Nat => iZ (a : Int)) (show _ = tdV w h n nc rc cap us rl _ from rfl), hq17, ((fr0.trans fr6 (fun _ _ => by omega)).trans fr12 (fun _ _ => by omega))⟩) hr hlk dX5_told_80
        · by_cases e1 : what = ((1 : Nat) : Int)
          · subst e1
            refine q_tabIn (j := 1) hc 81 dX5_told_33 (by decide) (by decide) rfl (by decide) ?_
            refine q_iconstN hc 0 dX5_told_81 rfl ?_
            refine q_istore_n hc [(3, .int (iZ ((0 : Nat) : Int))), (2, .int (iZ ((0 : Nat) : Int))), (0, .ref (ad 66)), (1, .int (iZ ((1 : Nat) : Int)))] dX5_told_82 rfl (by decide) rfl ?_
            refine V.sub [2, 3, 1, 0] rfl ?_
            refine V.loopP (α := Nat × Nat) (fun x => nc - x.1) (fun x => (x.1 ≤ nc) ∧ (x.2 = cnt (fun z9 => decide (¬ rl z9 = -1)) x.1)) (fun x => [(0, .ref (ad 66)), (1, .int (iZ ((1 : Nat) : Int))), (2, .int (iZ ((x.2 : Nat) : Int))), (3, .int (iZ ((x.1 : Nat) : Int)))]) (0, 0) ⟨(Nat.zero_le _), (rfl)⟩ rfl ?_
            intro x ih83 hI
            obtain ⟨i, a⟩ := x
            try dsimp only at ih83 hI ⊢
            obtain ⟨hi0, ha⟩ := hI
            refine q_iload_n hc 3 dX5_told_83 rfl ?_
            refine q_aload_n hc 0 dX5_told_84 rfl ?_
            refine q_get hc 66 5 i5 hq17 rfl (by decide) f63 rfl rfl dX5_told_85 ?_
            refine q_icmpN_ge hc 114 dX5_told_88 (by decide) (by omega) (by omega) (fun c20 => ?_) (fun c20 => ?_)
            · refine q_iload_n hc 2 dX5_told_114 rfl ?_
              exact q_iretM (z := ((a : Nat) : Int)) hc (⟨congrArg (fun a : Nat => iZ (a : Int)) (show _ = tdV w h n nc rc cap us rl _ from by rw [ha, show i = nc by omega]; rfl), hq17, ((fr0.trans fr6 (fun _ _ => by omega)).trans fr12 (fun _ _ => by omega))⟩) hr hlk dX5_told_115
            · refine q_iload_n hc 2 dX5_told_91 rfl ?_
              refine q_aload_n hc 0 dX5_told_92 rfl ?_
              refine q_get hc 66 8 i5 hq17 rfl (by decide) f22 rfl rfl dX5_told_93 ?_
              refine q_iload_n hc 3 dX5_told_96 rfl ?_
              refine q_zald (j := i) hc 71 hq15 rfl (by omega) (by omega) dX5_told_97 ?_
              refine q_ifz_eq hc 105 dX5_told_98 (by decide) (fun c21 => ?_) (fun c21 => ?_)
              · refine q_iconstN hc 0 dX5_told_105 rfl ?_
                refine q_iaddN hc dX5_told_106 ?_
                refine q_istore_n hc [(2, .int (iZ ((a + 0 : Nat) : Int))), (0, .ref (ad 66)), (1, .int (iZ ((1 : Nat) : Int))), (3, .int (iZ ((i : Nat) : Int)))] dX5_told_107 rfl (by decide) rfl ?_
                refine q_iincN (q := 3) hc 1 [(3, .int (iZ ((i + 1 : Nat) : Int))), (2, .int (iZ ((a + 0 : Nat) : Int))), (0, .ref (ad 66)), (1, .int (iZ ((1 : Nat) : Int)))] dX5_told_108 rfl rfl (by decide) rfl ?_
                refine q_goto hc 83 dX5_told_111 (by decide) ?_
                refine V.sub [2, 3, 1, 0] rfl ?_
                exact ih83 (i + 1, a + 0) (by omega) ⟨(by omega), (by rw [cnt_s, ha, show decide (¬ rl i = -1) = false from c21]; rfl)⟩
              · refine q_iconstN hc 1 dX5_told_101 rfl ?_
                refine q_goto hc 106 dX5_told_102 (by decide) ?_
                refine q_iaddN hc dX5_told_106 ?_
                refine q_istore_n hc [(2, .int (iZ ((a + 1 : Nat) : Int))), (0, .ref (ad 66)), (1, .int (iZ ((1 : Nat) : Int))), (3, .int (iZ ((i : Nat) : Int)))] dX5_told_107 rfl (by decide) rfl ?_
                refine q_iincN (q := 3) hc 1 [(3, .int (iZ ((i + 1 : Nat) : Int))), (2, .int (iZ ((a + 1 : Nat) : Int))), (0, .ref (ad 66)), (1, .int (iZ ((1 : Nat) : Int)))] dX5_told_108 rfl rfl (by decide) rfl ?_
                refine q_goto hc 83 dX5_told_111 (by decide) ?_
                refine V.sub [2, 3, 1, 0] rfl ?_
                exact ih83 (i + 1, a + 1) (by omega) ⟨(by omega), (by rw [cnt_s, ha, show decide (¬ rl i = -1) = true from c21]; rfl)⟩
          · by_cases e2 : what = ((2 : Nat) : Int)
            · subst e2
              refine q_tabIn (j := 2) hc 116 dX5_told_33 (by decide) (by decide) rfl (by decide) ?_
              refine q_iconstN hc 0 dX5_told_116 rfl ?_
              refine q_istore_n hc [(3, .int (iZ ((0 : Nat) : Int))), (2, .int (iZ ((0 : Nat) : Int))), (0, .ref (ad 66)), (1, .int (iZ ((2 : Nat) : Int)))] dX5_told_117 rfl (by decide) rfl ?_
              refine V.sub [2, 3, 1, 0] rfl ?_
              refine V.loopP (α := Nat × Nat) (fun x => nc - x.1) (fun x => (x.1 ≤ nc) ∧ (x.2 = sm (fun z9 => (rl z9).toNat) x.1)) (fun x => [(0, .ref (ad 66)), (1, .int (iZ ((2 : Nat) : Int))), (2, .int (iZ ((x.2 : Nat) : Int))), (3, .int (iZ ((x.1 : Nat) : Int)))]) (0, 0) ⟨(Nat.zero_le _), (rfl)⟩ rfl ?_
              intro x ih118 hI
              obtain ⟨i, a⟩ := x
              try dsimp only at ih118 hI ⊢
              obtain ⟨hi0, ha⟩ := hI
              refine q_iload_n hc 3 dX5_told_118 rfl ?_
              refine q_aload_n hc 0 dX5_told_119 rfl ?_
              refine q_get hc 66 5 i5 hq17 rfl (by decide) f63 rfl rfl dX5_told_120 ?_
              refine q_icmpN_ge hc 140 dX5_told_123 (by decide) (by omega) (by omega) (fun c23 => ?_) (fun c23 => ?_)
              · refine q_iload_n hc 2 dX5_told_140 rfl ?_
                exact q_iretM (z := ((a : Nat) : Int)) hc (⟨congrArg (fun a : Nat => iZ (a : Int)) (show _ = tdV w h n nc rc cap us rl _ from by rw [ha, show i = nc by omega]; rfl), hq17, ((fr0.trans fr6 (fun _ _ => by omega)).trans fr12 (fun _ _ => by omega))⟩) hr hlk dX5_told_141
              · refine q_iload_n hc 2 dX5_told_126 rfl ?_
                refine q_aload_n hc 0 dX5_told_127 rfl ?_
                refine q_iload_n hc 3 dX5_told_128 rfl ?_
                refine q_callPn (As := [.int (iZ ((i : Nat) : Int))]) (rest := [.int (iZ ((a : Nat) : Int))]) hc (c_X5_lengthOf l D K u9 ad w h n 0 nc rc i ro hq17 hq16 (by omega) hn) (cwV 1 hc.1.2.2.2.2 gX5_told_X5_lengthOf rfl rfl rfl (by decide +kernel) ⟨Nat.le_of_ble_eq_true rfl, Nat.le_of_ble_eq_true rfl⟩) 66 hq17 rfl rfl rfl (by simp [Value.category]) dX5_told_129 ⟨Nat.zero_le _, Nat.zero_le _⟩ ?_
                refine q_iaddN hc dX5_told_132 ?_
                refine q_istore_n hc [(2, .int (iZ ((a + (cnt (ro i) (2 * n)) : Nat) : Int))), (0, .ref (ad 66)), (1, .int (iZ ((2 : Nat) : Int))), (3, .int (iZ ((i : Nat) : Int)))] dX5_told_133 rfl (by decide) rfl ?_
                refine q_iincN (q := 3) hc 1 [(3, .int (iZ ((i + 1 : Nat) : Int))), (2, .int (iZ ((a + (cnt (ro i) (2 * n)) : Nat) : Int))), (0, .ref (ad 66)), (1, .int (iZ ((2 : Nat) : Int)))] dX5_told_134 rfl rfl (by decide) rfl ?_
                refine q_goto hc 118 dX5_told_137 (by decide) ?_
                refine V.sub [2, 3, 1, 0] rfl ?_
                exact ih118 (i + 1, a + (cnt (ro i) (2 * n))) (by omega) ⟨(by omega), (by rw [sm_s, ha, rl_cnt hRL hR0 (by omega)])⟩
            · by_cases e3 : what = ((3 : Nat) : Int)
              · subst e3
                refine q_tabIn (j := 3) hc 142 dX5_told_33 (by decide) (by decide) rfl (by decide) ?_
                refine q_iconstN hc 0 dX5_told_142 rfl ?_
                refine q_istore_n hc [(3, .int (iZ ((0 : Nat) : Int))), (2, .int (iZ ((0 : Nat) : Int))), (0, .ref (ad 66)), (1, .int (iZ ((3 : Nat) : Int)))] dX5_told_143 rfl (by decide) rfl ?_
                refine V.sub [2, 3, 1, 0] rfl ?_
                refine V.loopP (α := Nat × Nat) (fun x => 128 - x.1) (fun x => (x.1 ≤ 128) ∧ (x.2 = cnt (fun b => decide (0 < mA n 0 (fun k => us k - cap k) b)) x.1)) (fun x => [(0, .ref (ad 66)), (1, .int (iZ ((3 : Nat) : Int))), (2, .int (iZ ((x.2 : Nat) : Int))), (3, .int (iZ ((x.1 : Nat) : Int)))]) (0, 0) ⟨(Nat.zero_le _), (rfl)⟩ rfl ?_
                intro x ih144 hI
                obtain ⟨i, a⟩ := x
                try dsimp only at ih144 hI ⊢
                obtain ⟨hi0, ha⟩ := hI
                refine q_iload_n hc 3 dX5_told_144 rfl ?_
                refine q_sipushN hc 128 dX5_told_145 (by decide +kernel) ?_
                refine q_icmpN_ge hc 173 dX5_told_148 (by decide) (by omega) (by omega) (fun c27 => ?_) (fun c27 => ?_)
                · refine q_iload_n hc 2 dX5_told_173 rfl ?_
                  exact q_iretM (z := ((a : Nat) : Int)) hc (⟨congrArg (fun a : Nat => iZ (a : Int)) (show _ = tdV w h n nc rc cap us rl _ from by rw [ha, show i = 128 by omega]; exact cntd_ub hn (fun k => us k - cap k)), hq17, ((fr0.trans fr6 (fun _ _ => by omega)).trans fr12 (fun _ _ => by omega))⟩) hr hlk dX5_told_174
                · refine q_iload_n hc 2 dX5_told_151 rfl ?_
                  refine q_aload_n hc 0 dX5_told_152 rfl ?_
                  refine q_iload_n hc 3 dX5_told_153 rfl ?_
                  refine q_callPn (As := [.int (iZ ((i : Nat) : Int))]) (rest := [.int (iZ ((a : Nat) : Int))]) hc (c_X5_over l D K u9 ad w h n 0 nc rc i c0 cap _ ro hq17 hq14 hq16 (by omega) hnc hUC hc0 hcap hus) (cwV 1 hc.1.2.2.2.2 gX5_told_X5_over rfl rfl rfl (by decide +kernel) ⟨Nat.le_of_ble_eq_true rfl, Nat.le_of_ble_eq_true rfl⟩) 66 hq17 rfl rfl rfl (by simp [Value.category]) dX5_told_154 ⟨Nat.zero_le _, Nat.zero_le _⟩ ?_
                  have u3 := mA_bd (z := 0) (show ∀ k, k < 2 * n → us k - cap k ≤ 12 from fun k hk => by have := hus k hk; omega) (by omega) (show i < 128 by omega)
                  refine q_if_le hc 164 dX5_told_157 (by decide) (by omega) (fun c30 => ?_) (fun c30 => ?_)
                  · refine q_iconstN hc 0 dX5_told_164 rfl ?_
                    refine q_iaddN hc dX5_told_165 ?_
                    refine q_istore_n hc [(2, .int (iZ ((a + 0 : Nat) : Int))), (0, .ref (ad 66)), (1, .int (iZ ((3 : Nat) : Int))), (3, .int (iZ ((i : Nat) : Int)))] dX5_told_166 rfl (by decide) rfl ?_
                    refine q_iincN (q := 3) hc 1 [(3, .int (iZ ((i + 1 : Nat) : Int))), (2, .int (iZ ((a + 0 : Nat) : Int))), (0, .ref (ad 66)), (1, .int (iZ ((3 : Nat) : Int)))] dX5_told_167 rfl rfl (by decide) rfl ?_
                    refine q_goto hc 144 dX5_told_170 (by decide) ?_
                    refine V.sub [2, 3, 1, 0] rfl ?_
                    exact ih144 (i + 1, a + 0) (by omega) ⟨(by omega), (by rw [cnt_s, ha, show decide (0 < mA n 0 (fun k => us k - cap k) i) = false from decide_eq_false (by omega)]; rfl)⟩
                  · refine q_iconstN hc 1 dX5_told_160 rfl ?_
                    refine q_goto hc 165 dX5_told_161 (by decide) ?_
                    refine q_iaddN hc dX5_told_165 ?_
                    refine q_istore_n hc [(2, .int (iZ ((a + 1 : Nat) : Int))), (0, .ref (ad 66)), (1, .int (iZ ((3 : Nat) : Int))), (3, .int (iZ ((i : Nat) : Int)))] dX5_told_166 rfl (by decide) rfl ?_
                    refine q_iincN (q := 3) hc 1 [(3, .int (iZ ((i + 1 : Nat) : Int))), (2, .int (iZ ((a + 1 : Nat) : Int))), (0, .ref (ad 66)), (1, .int (iZ ((3 : Nat) : Int)))] dX5_told_167 rfl rfl (by decide) rfl ?_
                    refine q_goto hc 144 dX5_told_170 (by decide) ?_
                    refine V.sub [2, 3, 1, 0] rfl ?_
                    exact ih144 (i + 1, a + 1) (by omega) ⟨(by omega), (by rw [cnt_s, ha, show decide (0 < mA n 0 (fun k => us k - cap k) i) = true from decide_eq_true (by omega)]; rfl)⟩
              · by_cases e4 : what = ((4 : Nat) : Int)
                · subst e4
                  refine q_tabIn (j := 4) hc 175 dX5_told_33 (by decide) (by decide) rfl (by decide) ?_
                  refine q_iconstN hc 0 dX5_told_175 rfl ?_
                  refine q_istore_n hc [(3, .int (iZ ((0 : Nat) : Int))), (2, .int (iZ ((0 : Nat) : Int))), (0, .ref (ad 66)), (1, .int (iZ ((4 : Nat) : Int)))] dX5_told_176 rfl (by decide) rfl ?_
                  refine V.sub [2, 3, 1, 0] rfl ?_
                  refine V.loopP (α := Nat × Nat) (fun x => 128 - x.1) (fun x => (x.1 ≤ 128) ∧ (x.2 = sm (mA n 0 (fun k => us k - cap k)) x.1)) (fun x => [(0, .ref (ad 66)), (1, .int (iZ ((4 : Nat) : Int))), (2, .int (iZ ((x.2 : Nat) : Int))), (3, .int (iZ ((x.1 : Nat) : Int)))]) (0, 0) ⟨(Nat.zero_le _), (rfl)⟩ rfl ?_
                  intro x ih177 hI
                  obtain ⟨i, a⟩ := x
                  try dsimp only at ih177 hI ⊢
                  obtain ⟨hi0, ha⟩ := hI
                  refine q_iload_n hc 3 dX5_told_177 rfl ?_
                  refine q_sipushN hc 128 dX5_told_178 (by decide +kernel) ?_
                  refine q_icmpN_ge hc 198 dX5_told_181 (by decide) (by omega) (by omega) (fun c32 => ?_) (fun c32 => ?_)
                  · refine q_iload_n hc 2 dX5_told_198 rfl ?_
                    exact q_iretM (z := ((a : Nat) : Int)) hc (⟨congrArg (fun a : Nat => iZ (a : Int)) (show _ = tdV w h n nc rc cap us rl _ from by rw [ha, show i = 128 by omega]; exact sm_ub hn (fun k => us k - cap k)), hq17, ((fr0.trans fr6 (fun _ _ => by omega)).trans fr12 (fun _ _ => by omega))⟩) hr hlk dX5_told_199
                  · refine q_iload_n hc 2 dX5_told_184 rfl ?_
                    refine q_aload_n hc 0 dX5_told_185 rfl ?_
                    refine q_iload_n hc 3 dX5_told_186 rfl ?_
                    refine q_callPn (As := [.int (iZ ((i : Nat) : Int))]) (rest := [.int (iZ ((a : Nat) : Int))]) hc (c_X5_over l D K u9 ad w h n 0 nc rc i c0 cap _ ro hq17 hq14 hq16 (by omega) hnc hUC hc0 hcap hus) (cwV 1 hc.1.2.2.2.2 gX5_told_X5_over rfl rfl rfl (by decide +kernel) ⟨Nat.le_of_ble_eq_true rfl, Nat.le_of_ble_eq_true rfl⟩) 66 hq17 rfl rfl rfl (by simp [Value.category]) dX5_told_187 ⟨Nat.zero_le _, Nat.zero_le _⟩ ?_
                    refine q_iaddN hc dX5_told_190 ?_
                    refine q_istore_n hc [(2, .int (iZ ((a + (mA n 0 (fun k => us k - cap k) i) : Nat) : Int))), (0, .ref (ad 66)), (1, .int (iZ ((4 : Nat) : Int))), (3, .int (iZ ((i : Nat) : Int)))] dX5_told_191 rfl (by decide) rfl ?_
                    refine q_iincN (q := 3) hc 1 [(3, .int (iZ ((i + 1 : Nat) : Int))), (2, .int (iZ ((a + (mA n 0 (fun k => us k - cap k) i) : Nat) : Int))), (0, .ref (ad 66)), (1, .int (iZ ((4 : Nat) : Int)))] dX5_told_192 rfl rfl (by decide) rfl ?_
                    refine q_goto hc 177 dX5_told_195 (by decide) ?_
                    refine V.sub [2, 3, 1, 0] rfl ?_
                    exact ih177 (i + 1, a + (mA n 0 (fun k => us k - cap k) i)) (by omega) ⟨(by omega), (by rw [sm_s, ha])⟩
                · by_cases e5 : what = ((5 : Nat) : Int)
                  · subst e5
                    refine q_tabIn (j := 5) hc 200 dX5_told_33 (by decide) (by decide) rfl (by decide) ?_
                    refine q_aload_n hc 1 dX5_told_200 rfl ?_
                    refine q_get hc 66 1 i5 hq17 rfl (by decide) f45 rfl rfl dX5_told_201 ?_
                    exact q_iretM (z := ((w : Nat) : Int)) hc (⟨congrArg (fun a : Nat => iZ (a : Int)) (show _ = tdV w h n nc rc cap us rl _ from rfl), hq17, ((fr0.trans fr6 (fun _ _ => by omega)).trans fr12 (fun _ _ => by omega))⟩) hr hlk dX5_told_204
                  · by_cases e6 : what = ((6 : Nat) : Int)
                    · subst e6
                      refine q_tabIn (j := 6) hc 205 dX5_told_33 (by decide) (by decide) rfl (by decide) ?_
                      refine q_aload_n hc 1 dX5_told_205 rfl ?_
                      refine q_get hc 66 2 i5 hq17 rfl (by decide) f49 rfl rfl dX5_told_206 ?_
                      exact q_iretM (z := ((h : Nat) : Int)) hc (⟨congrArg (fun a : Nat => iZ (a : Int)) (show _ = tdV w h n nc rc cap us rl _ from rfl), hq17, ((fr0.trans fr6 (fun _ _ => by omega)).trans fr12 (fun _ _ => by omega))⟩) hr hlk dX5_told_209
                    · refine q_tabOut hc 210 dX5_told_33 (by omega) (by omega) (by decide) ?_
                      refine q_aload_n hc 1 dX5_told_210 rfl ?_
                      refine q_get hc 66 10 i5 hq17 rfl (by decide) f123 rfl rfl dX5_told_211 ?_
                      exact q_iretM (z := ((rc : Nat) : Int)) hc (⟨congrArg (fun a : Nat => iZ (a : Int)) (show _ = tdV w h n nc rc cap us rl _ from by rw [show what.toNat = 7 by omega]; rfl), hq17, ((fr0.trans fr6 (fun _ _ => by omega)).trans fr12 (fun _ _ => by omega))⟩) hr hlk dX5_told_214
      · cases c18
    · exact absurd c8 (by omega)

set_option maxRecDepth 100000 in
set_option maxHeartbeats 4000000 in
theorem c_X5_told_e1 (l : Launch) (D : va_G) (K : Nat → ClassId) (ws : va_W) (ad : Nat → Nat) (w h th nc rc : Nat) (what : Int) (h66 : ws[66]? = some (ad 66, mO ad w h th nc rc)) (hwhat : -2147483648 ≤ what ∧ what < 2147483648) (hbad : ¬ (0 ≤ what ∧ what < 8)) : MMi l yX5_told wsX5_told ({ frames := 1, cells := 0, slots := 0, locals := 22 }) D K ws [.ref (ad 66), .int (iZ what)] (fun r u => (r = (iZ ((0 : Nat) : Int))) ∧ (u[66]? = some (ad 66, mO ad w h 1 nc rc)) ∧ (Fr (fun j => j = 66) ws u)) := by
  refine q_entMi RX5 [(0, .ref (ad 66)), (1, .int (iZ what))] (by decide) rfl rfl (Nat.le_of_ble_eq_true rfl) rfl ?_
  intro p e s m args below meth c hc hr hlk
  have i5 : ∀ w ∈ u_ws RX5 TX5 16, w ∈ wsX5_told := by decide +kernel
  have f52 := hc.1.2.2.2.2 (.fieldLink RX5 52 "GlobalRoutesModel" "thrown" "I") (by decide +kernel)
  have fr0 : Fr (fun j => j = 66) ws ws := Fr.rfl
  refine q_aload_n hc 0 dX5_told_0 rfl ?_
  refine q_iconstN hc 0 dX5_told_1 rfl ?_
  refine q_put (ty := .int) hc 66 0 i5 tyX5 tyX5_ok nmX5 h66 rfl (by decide) f52 rfl rfl (by decide +kernel) rfl rfl (Nat.le_of_ble_eq_true rfl) rfl dX5_told_2 (fun u1 hn' hf' => ?_)
  have hq2 : u1[66]? = some (ad 66, mO ad w h 0 nc rc) := hn'
  have fr3 := Fr.one hf'
  refine q_aload_n hc 0 dX5_told_5 rfl ?_
  refine q_iload_n hc 1 dX5_told_6 rfl ?_
  refine q_if_lt hc 16 dX5_told_7 (by decide) (by omega) (fun c4 => ?_) (fun c4 => ?_)
  · refine q_iconstN hc 1 dX5_told_16 rfl ?_
    refine q_goto hc 21 dX5_told_17 (by decide) ?_
    refine q_iconstN hc 1 dX5_told_21 rfl ?_
    refine q_callMi (As := [.int (iZ (bZ true)), .int (iZ ((1 : Nat) : Int))]) (rest := []) hc (c_X5_fails l D K u1 ad w h nc rc true 1 hq2 (by omega)) (cwV 2 hc.1.2.2.2.2 gX5_told_X5_fails rfl rfl rfl (by decide +kernel) ⟨Nat.le_of_ble_eq_true rfl, Nat.le_of_ble_eq_true rfl⟩) 66 hq2 rfl rfl rfl (by decide) dX5_told_22 ⟨Nat.zero_le _, Nat.zero_le _⟩ (fun r6 u5 hp' => ?_)
    obtain ⟨hr9, hq7, fr8⟩ := hp'
    subst hr9
    have hq10 : u5[66]? = some (ad 66, mO ad w h 1 nc rc) := hq7
    refine q_ifz_eq hc 30 dX5_told_25 (by decide) (fun c11 => ?_) (fun c11 => ?_)
    · cases c11
    · refine q_iconstN hc 0 dX5_told_28 rfl ?_
      exact q_iretM (z := ((0 : Nat) : Int)) hc (⟨rfl, hq10, ((fr0.trans fr3 (fun _ _ => by omega)).trans fr8 (fun _ _ => by omega))⟩) hr hlk dX5_told_29
  · refine q_iload_n hc 1 dX5_told_10 rfl ?_
    refine q_bipushN hc 7 dX5_told_11 (by decide +kernel) ?_
    refine q_icmp_le hc 20 dX5_told_13 (by decide) (by omega) (by omega) (fun c12 => ?_) (fun c12 => ?_)
    · exact absurd c12 (by omega)
    · refine q_iconstN hc 1 dX5_told_16 rfl ?_
      refine q_goto hc 21 dX5_told_17 (by decide) ?_
      refine q_iconstN hc 1 dX5_told_21 rfl ?_
      refine q_callMi (As := [.int (iZ (bZ true)), .int (iZ ((1 : Nat) : Int))]) (rest := []) hc (c_X5_fails l D K u1 ad w h nc rc true 1 hq2 (by omega)) (cwV 2 hc.1.2.2.2.2 gX5_told_X5_fails rfl rfl rfl (by decide +kernel) ⟨Nat.le_of_ble_eq_true rfl, Nat.le_of_ble_eq_true rfl⟩) 66 hq2 rfl rfl rfl (by decide) dX5_told_22 ⟨Nat.zero_le _, Nat.zero_le _⟩ (fun r14 u13 hp' => ?_)
      obtain ⟨hr17, hq15, fr16⟩ := hp'
      subst hr17
      have hq18 : u13[66]? = some (ad 66, mO ad w h 1 nc rc) := hq15
      refine q_ifz_eq hc 30 dX5_told_25 (by decide) (fun c19 => ?_) (fun c19 => ?_)
      · cases c19
      · refine q_iconstN hc 0 dX5_told_28 rfl ?_
        exact q_iretM (z := ((0 : Nat) : Int)) hc (⟨rfl, hq18, ((fr0.trans fr3 (fun _ _ => by omega)).trans fr16 (fun _ _ => by omega))⟩) hr hlk dX5_told_29

set_option maxRecDepth 100000 in
set_option maxHeartbeats 4000000 in
theorem c_X5_line (l : Launch) (D : va_G) (K : Nat → ClassId) (ws : va_W) (ad : Nat → Nat) (w h n th nc rc : Nat) (d : Bool) (k what : Int) (c0 : Nat) (cap us : Nat → Nat) (pn : Nat → Nat) (pi : Nat → Nat → Nat) (ro : Nat → Nat → Bool) (h66 : ws[66]? = some (ad 66, mO ad w h th nc rc)) (m67 : ws[67]? = some (ad 67, iN K 128 (mA n c0 cap))) (m69 : ws[69]? = some (ad 69, iN K 12 pn)) (m70 : ws[70]? = some (ad 70, iN K 60 (mP pi))) (m72 : ws[72]? = some (ad 72, zA K 1536 (mRo n ro))) (hk : -2147483648 ≤ k ∧ k < 2147483648) (hwhat : -2147483648 ≤ what ∧ what < 2147483648) (hn : n ≤ 64) (hw2 : 2 ≤ w ∧ w ≤ 8 ∧ 2 ≤ h ∧ h ≤ 8) (hnc : nc ≤ 12) (hxy : ∀ x y, x < w → y < h → x + w * y < n) (hUC : UC n nc us ro) (hc0 : c0 ≤ 20) (hcap : ∀ k, k < 2 * n → cap k ≤ 20) (hus : ∀ k, k < 2 * n → us k ≤ 12) (hpn : ∀ j, j < nc → pn j ≤ 5) (hpif : ∀ j k, j < nc → pi j k < 64) (hkk : (0 ≤ k ∧ k < (lnK w h d : Int) - 1)) (hwt : 0 ≤ what ∧ what < 3) : MMi l yX5_line wsX5_line ({ frames := 1, cells := 0, slots := 0, locals := 23 }) D K ws [.ref (ad 66), .int (iZ (bZ d)), .int (iZ k), .int (iZ what)] (fun r u => (r = (iZ ((lnV w h nc cap us pn pi d k.toNat what.toNat : Nat) : Int))) ∧ (u[66]? = some (ad 66, mO ad w h 0 nc rc)) ∧ (Fr (fun j => j = 66) ws u)) := by
  refine q_entMi RX5 [(0, .ref (ad 66)), (1, .int (iZ (bZ d))), (2, .int (iZ k)), (3, .int (iZ what))] (by decide) rfl rfl (Nat.le_of_ble_eq_true rfl) rfl ?_
  intro p e s m args below meth c hc hr hlk
  have i5 : ∀ w ∈ u_ws RX5 TX5 16, w ∈ wsX5_line := by decide +kernel
  have f52 := hc.1.2.2.2.2 (.fieldLink RX5 52 "GlobalRoutesModel" "thrown" "I") (by decide +kernel)
  have f45 := hc.1.2.2.2.2 (.fieldLink RX5 45 "GlobalRoutesModel" "width" "I") (by decide +kernel)
  have f63 := hc.1.2.2.2.2 (.fieldLink RX5 63 "GlobalRoutesModel" "nets" "I") (by decide +kernel)
  have f49 := hc.1.2.2.2.2 (.fieldLink RX5 49 "GlobalRoutesModel" "height" "I") (by decide +kernel)
  have f16 := hc.1.2.2.2.2 (.fieldLink RX5 16 "GlobalRoutesModel" "pins" "[I") (by decide +kernel)
  have f19 := hc.1.2.2.2.2 (.fieldLink RX5 19 "GlobalRoutesModel" "pinCells" "[I") (by decide +kernel)
  have f7 := hc.1.2.2.2.2 (.fieldLink RX5 7 "GlobalRoutesModel" "capacities" "[I") (by decide +kernel)
  have fr0 : Fr (fun j => j = 66) ws ws := Fr.rfl
  refine q_aload_n hc 0 dX5_line_0 rfl ?_
  refine q_iconstN hc 0 dX5_line_1 rfl ?_
  refine q_put (ty := .int) hc 66 0 i5 tyX5 tyX5_ok nmX5 h66 rfl (by decide) f52 rfl rfl (by decide +kernel) rfl rfl (Nat.le_of_ble_eq_true rfl) rfl dX5_line_2 (fun u1 hn' hf' => ?_)
  have hq2 : u1[66]? = some (ad 66, mO ad w h 0 nc rc) := hn'
  have hq3 := (hf' 67 (by omega)).trans m67
  have hq4 := (hf' 69 (by omega)).trans m69
  have hq5 := (hf' 70 (by omega)).trans m70
  have hq6 := (hf' 72 (by omega)).trans m72
  have fr7 := Fr.one hf'
  refine q_aload_n hc 0 dX5_line_5 rfl ?_
  refine q_iload_n hc 2 dX5_line_6 rfl ?_
  refine q_if_lt hc 31 dX5_line_7 (by decide) (by omega) (fun c8 => ?_) (fun c8 => ?_)
  · exact absurd hkk.1 (by omega)
  · refine q_iload_n hc 2 dX5_line_10 rfl ?_
    refine q_iload_n hc 1 dX5_line_11 rfl ?_
    refine q_ifz_eq hc 22 dX5_line_12 (by decide) (fun c9 => ?_) (fun c9 => ?_)
    · subst c9
      have hk9 : 0 ≤ k ∧ k < (w : Int) - 1 := hkk
      refine q_aload_n hc 0 dX5_line_22 rfl ?_
      refine q_get hc 66 1 i5 hq2 rfl (by decide) f45 rfl rfl dX5_line_23 ?_
      refine q_iconstN hc 1 dX5_line_26 rfl ?_
      refine q_isub hc dX5_line_27 ?_
      refine q_icmp_lt hc 35 dX5_line_28 (by decide) (by omega) (by omega) (fun c10 => ?_) (fun c10 => ?_)
      · refine q_iconstN hc 0 dX5_line_35 rfl ?_
        refine q_iconstN hc 1 dX5_line_36 rfl ?_
        refine q_callMi (As := [.int (iZ (bZ false)), .int (iZ ((1 : Nat) : Int))]) (rest := []) hc (c_X5_fails l D K u1 ad w h nc rc false 1 hq2 (by omega)) (cwV 2 hc.1.2.2.2.2 gX5_line_X5_fails rfl rfl rfl (by decide +kernel) ⟨Nat.le_of_ble_eq_true rfl, Nat.le_of_ble_eq_true rfl⟩) 66 hq2 rfl rfl rfl (by decide) dX5_line_37 ⟨Nat.zero_le _, Nat.zero_le _⟩ (fun r12 u11 hp' => ?_)
        obtain ⟨hr15, hq13, fr14⟩ := hp'
        have hq16 := (fr14.at 67 (by omega)).trans hq3
        have hq17 := (fr14.at 69 (by omega)).trans hq4
        have hq18 := (fr14.at 70 (by omega)).trans hq5
        have hq19 := (fr14.at 72 (by omega)).trans hq6
        subst hr15
        have hq20 : u11[66]? = some (ad 66, mO ad w h 0 nc rc) := hq13
        refine q_ifz_ne hc 65 dX5_line_40 (by decide) (fun c21 => ?_) (fun c21 => ?_)
        · cases c21
        · refine q_aload_n hc 0 dX5_line_43 rfl ?_
          refine q_iload_n hc 3 dX5_line_44 rfl ?_
          refine q_if_lt hc 53 dX5_line_45 (by decide) (by omega) (fun c22 => ?_) (fun c22 => ?_)
          · exact absurd c22 (by omega)
          · refine q_iload_n hc 3 dX5_line_48 rfl ?_
            refine q_iconstN hc 2 dX5_line_49 rfl ?_
            refine q_icmp_le hc 57 dX5_line_50 (by decide) (by omega) (by omega) (fun c23 => ?_) (fun c23 => ?_)
            · refine q_iconstN hc 0 dX5_line_57 rfl ?_
              refine q_iconstN hc 2 dX5_line_58 rfl ?_
              refine q_callMi (As := [.int (iZ (bZ false)), .int (iZ ((2 : Nat) : Int))]) (rest := []) hc (c_X5_fails l D K u11 ad w h nc rc false 2 hq20 (by omega)) (cwV 2 hc.1.2.2.2.2 gX5_line_X5_fails rfl rfl rfl (by decide +kernel) ⟨Nat.le_of_ble_eq_true rfl, Nat.le_of_ble_eq_true rfl⟩) 66 hq20 rfl rfl rfl (by decide) dX5_line_59 ⟨Nat.zero_le _, Nat.zero_le _⟩ (fun r25 u24 hp' => ?_)
              obtain ⟨hr28, hq26, fr27⟩ := hp'
              have hq29 := (fr27.at 67 (by omega)).trans hq16
              have hq30 := (fr27.at 69 (by omega)).trans hq17
              have hq31 := (fr27.at 70 (by omega)).trans hq18
              have hq32 := (fr27.at 72 (by omega)).trans hq19
              subst hr28
              have hq33 : u24[66]? = some (ad 66, mO ad w h 0 nc rc) := hq26
              refine q_ifz_eq hc 67 dX5_line_62 (by decide) (fun c34 => ?_) (fun c34 => ?_)
              · rcases (show what = 0 ∨ what = 1 ∨ what = 2 by omega) with e0 | e1 | e2
                · subst e0
                  refine q_iconstN hc 0 dX5_line_67 rfl ?_
                  refine q_istore hc [(4, .int (iZ ((0 : Nat) : Int))), (0, .ref (ad 66)), (1, .int (iZ (bZ false))), (2, .int (iZ k)), (3, .int (iZ 0))] dX5_line_68 (by decide) rfl ?_
                  refine q_iconstN hc 0 dX5_line_70 rfl ?_
                  refine q_istore hc [(5, .int (iZ ((0 : Nat) : Int))), (4, .int (iZ ((0 : Nat) : Int))), (0, .ref (ad 66)), (1, .int (iZ (bZ false))), (2, .int (iZ k)), (3, .int (iZ 0))] dX5_line_71 (by decide) rfl ?_
                  refine V.sub [2, 3, 4, 5, 1, 0] rfl ?_
                  refine V.loopP (α := Nat × Nat) (fun x => nc - x.1) (fun x => (x.1 ≤ nc) ∧ (x.2 = cnt (fun z9 => acr w false k.toNat (pn z9) (pi z9)) x.1)) (fun x => [(0, .ref (ad 66)), (1, .int (iZ (bZ false))), (2, .int (iZ k)), (3, .int (iZ 0)), (4, .int (iZ ((x.2 : Nat) : Int))), (5, .int (iZ ((x.1 : Nat) : Int)))]) (0, 0) ⟨(Nat.zero_le _), (rfl)⟩ rfl ?_
                  intro x ih73 hI
                  obtain ⟨j, a⟩ := x
                  try dsimp only at ih73 hI ⊢
                  obtain ⟨hj0, ha⟩ := hI
                  refine q_iload hc 5 dX5_line_73 rfl ?_
                  refine q_aload_n hc 0 dX5_line_75 rfl ?_
                  refine q_get hc 66 5 i5 hq33 rfl (by decide) f63 rfl rfl dX5_line_76 ?_
                  refine q_icmpN_ge hc 192 dX5_line_79 (by decide) (by omega) (by omega) (fun c36 => ?_) (fun c36 => ?_)
                  · refine q_iconstN hc 0 dX5_line_192 rfl ?_
                    refine q_istore hc [(5, .int (iZ ((0 : Nat) : Int))), (0, .ref (ad 66)), (1, .int (iZ (bZ false))), (2, .int (iZ k)), (3, .int (iZ 0)), (4, .int (iZ ((a : Nat) : Int)))] dX5_line_193 (by decide) rfl ?_
                    refine q_iload hc 0 dX5_line_195 rfl ?_
                    refine q_iload_n hc 2 dX5_line_197 rfl ?_
                    refine q_ifz_eq hc 208 dX5_line_198 (by decide) (fun c37 => ?_) (fun c37 => ?_)
                    · refine q_aload_n hc 1 dX5_line_208 rfl ?_
                      refine q_get hc 66 2 i5 hq33 rfl (by decide) f49 rfl rfl dX5_line_209 ?_
                      refine q_icmpN_ge hc 278 dX5_line_212 (by decide) (by omega) (by omega) (fun c38 => ?_) (fun c38 => ?_)
                      · refine q_iload hc 5 dX5_line_278 rfl ?_
                        exact q_iretM (z := ((a : Nat) : Int)) hc (⟨congrArg (fun a : Nat => iZ (a : Int)) (show _ = lnV w h nc cap us pn pi false k.toNat 0 from by rw [ha, show j = nc by omega]; rfl), hq33, (((fr0.trans fr7 (fun _ _ => by omega)).trans fr14 (fun _ _ => by omega)).trans fr27 (fun _ _ => by omega))⟩) hr hlk dX5_line_280
                      · refine q_iload_n hc 4 dX5_line_215 rfl ?_
                        refine q_if_le hc 278 dX5_line_216 (by decide) (by omega) (fun c39 => ?_) (fun c39 => ?_)
                        · refine q_iload hc 5 dX5_line_278 rfl ?_
                          exact q_iretM (z := ((a : Nat) : Int)) hc (⟨congrArg (fun a : Nat => iZ (a : Int)) (show _ = lnV w h nc cap us pn pi false k.toNat 0 from by rw [ha, show j = nc by omega]; rfl), hq33, (((fr0.trans fr7 (fun _ _ => by omega)).trans fr14 (fun _ _ => by omega)).trans fr27 (fun _ _ => by omega))⟩) hr hlk dX5_line_280
                        · exact absurd c39 (by omega)
                    · cases c37
                  · refine q_iload_n hc 3 dX5_line_82 rfl ?_
                    refine q_if_ne hc 192 dX5_line_83 (by decide) (by omega) (fun c40 => ?_) (fun c40 => ?_)
                    · exact absurd c40 (by omega)
                    · refine q_iconstN hc 0 dX5_line_86 rfl ?_
                      refine q_istore hc [(6, .int (iZ ((0 : Nat) : Int))), (0, .ref (ad 66)), (1, .int (iZ (bZ false))), (2, .int (iZ k)), (3, .int (iZ 0)), (4, .int (iZ ((a : Nat) : Int))), (5, .int (iZ ((j : Nat) : Int)))] dX5_line_87 (by decide) rfl ?_
                      refine q_iconstN hc 0 dX5_line_89 rfl ?_
                      refine q_istore hc [(7, .int (iZ ((0 : Nat) : Int))), (6, .int (iZ ((0 : Nat) : Int))), (0, .ref (ad 66)), (1, .int (iZ (bZ false))), (2, .int (iZ k)), (3, .int (iZ 0)), (4, .int (iZ ((a : Nat) : Int))), (5, .int (iZ ((j : Nat) : Int)))] dX5_line_90 (by decide) rfl ?_
                      refine V.sub [2, 3, 4, 5, 6, 7, 1, 0] rfl ?_
                      refine V.loopP (α := Nat × Nat) (fun x => pn j - x.1) (fun x => (x.1 ≤ pn j) ∧ (x.2 = cnt (fun z9 => decide (plc w false (pi j z9) ≤ k.toNat)) x.1)) (fun x => [(0, .ref (ad 66)), (1, .int (iZ (bZ false))), (2, .int (iZ k)), (3, .int (iZ 0)), (4, .int (iZ ((a : Nat) : Int))), (5, .int (iZ ((j : Nat) : Int))), (6, .int (iZ ((x.2 : Nat) : Int))), (7, .int (iZ ((x.1 : Nat) : Int)))]) (0, 0) ⟨(Nat.zero_le _), (rfl)⟩ rfl ?_
                      intro x ih92 hI
                      obtain ⟨i, bf⟩ := x
                      try dsimp only at ih92 hI ⊢
                      obtain ⟨hi0, hb⟩ := hI
                      refine q_iload hc 7 dX5_line_92 rfl ?_
                      refine q_aload_n hc 0 dX5_line_94 rfl ?_
                      refine q_get hc 66 6 i5 hq33 rfl (by decide) f16 rfl rfl dX5_line_95 ?_
                      refine q_iload hc 5 dX5_line_98 rfl ?_
                      refine q_ialdN (j := j) hc 69 hq30 rfl (by omega) (by omega) dX5_line_100 ?_
                      have u5 := hpn j (by omega)
                      refine q_icmpN_ge hc 159 dX5_line_101 (by decide) (by omega) (by omega) (fun c42 => ?_) (fun c42 => ?_)
                      · have u5 := hpn j (by omega); have u6 := cnt_le (fun z9 => decide (plc w false (pi j z9) ≤ k.toNat)) i
                        refine q_iload hc 4 dX5_line_159 rfl ?_
                        refine q_iload hc 6 dX5_line_161 rfl ?_
                        refine q_if_le hc 182 dX5_line_163 (by decide) (by omega) (fun c43 => ?_) (fun c43 => ?_)
                        · refine q_iconstN hc 0 dX5_line_182 rfl ?_
                          refine q_iaddN hc dX5_line_183 ?_
                          refine q_istore hc [(4, .int (iZ ((a + 0 : Nat) : Int))), (0, .ref (ad 66)), (1, .int (iZ (bZ false))), (2, .int (iZ k)), (3, .int (iZ 0)), (5, .int (iZ ((j : Nat) : Int))), (6, .int (iZ ((bf : Nat) : Int))), (7, .int (iZ ((i : Nat) : Int)))] dX5_line_184 (by decide) rfl ?_
                          refine q_iincN (q := 5) hc 1 [(5, .int (iZ ((j + 1 : Nat) : Int))), (4, .int (iZ ((a + 0 : Nat) : Int))), (0, .ref (ad 66)), (1, .int (iZ (bZ false))), (2, .int (iZ k)), (3, .int (iZ 0)), (6, .int (iZ ((bf : Nat) : Int))), (7, .int (iZ ((i : Nat) : Int)))] dX5_line_186 rfl rfl (by decide) rfl ?_
                          refine q_goto hc 73 dX5_line_189 (by decide) ?_
                          refine V.sub [2, 3, 4, 5, 1, 0] rfl ?_
                          exact ih73 (j + 1, a + 0) (by omega) ⟨(by omega), (by rw [cnt_s, ha, acr_cnt, ← show i = pn j by omega]; rw [decide_eq_false (by rw [← hb]; omega)]; rfl)⟩
                        · refine q_iload hc 6 dX5_line_166 rfl ?_
                          refine q_aload_n hc 0 dX5_line_168 rfl ?_
                          refine q_get hc 66 6 i5 hq33 rfl (by decide) f16 rfl rfl dX5_line_169 ?_
                          refine q_iload hc 5 dX5_line_172 rfl ?_
                          refine q_ialdN (j := j) hc 69 hq30 rfl (by omega) (by omega) dX5_line_174 ?_
                          refine q_icmpN_ge hc 182 dX5_line_175 (by decide) (by omega) (by omega) (fun c44 => ?_) (fun c44 => ?_)
                          · refine q_iconstN hc 0 dX5_line_182 rfl ?_
                            refine q_iaddN hc dX5_line_183 ?_
                            refine q_istore hc [(4, .int (iZ ((a + 0 : Nat) : Int))), (0, .ref (ad 66)), (1, .int (iZ (bZ false))), (2, .int (iZ k)), (3, .int (iZ 0)), (5, .int (iZ ((j : Nat) : Int))), (6, .int (iZ ((bf : Nat) : Int))), (7, .int (iZ ((i : Nat) : Int)))] dX5_line_184 (by decide) rfl ?_
                            refine q_iincN (q := 5) hc 1 [(5, .int (iZ ((j + 1 : Nat) : Int))), (4, .int (iZ ((a + 0 : Nat) : Int))), (0, .ref (ad 66)), (1, .int (iZ (bZ false))), (2, .int (iZ k)), (3, .int (iZ 0)), (6, .int (iZ ((bf : Nat) : Int))), (7, .int (iZ ((i : Nat) : Int)))] dX5_line_186 rfl rfl (by decide) rfl ?_
                            refine q_goto hc 73 dX5_line_189 (by decide) ?_
                            refine V.sub [2, 3, 4, 5, 1, 0] rfl ?_
                            exact ih73 (j + 1, a + 0) (by omega) ⟨(by omega), (by rw [cnt_s, ha, acr_cnt, ← show i = pn j by omega]; rw [decide_eq_false (by rw [← hb]; omega)]; rfl)⟩
                          · refine q_iconstN hc 1 dX5_line_178 rfl ?_
                            refine q_goto hc 183 dX5_line_179 (by decide) ?_
                            refine q_iaddN hc dX5_line_183 ?_
                            refine q_istore hc [(4, .int (iZ ((a + 1 : Nat) : Int))), (0, .ref (ad 66)), (1, .int (iZ (bZ false))), (2, .int (iZ k)), (3, .int (iZ 0)), (5, .int (iZ ((j : Nat) : Int))), (6, .int (iZ ((bf : Nat) : Int))), (7, .int (iZ ((i : Nat) : Int)))] dX5_line_184 (by decide) rfl ?_
                            refine q_iincN (q := 5) hc 1 [(5, .int (iZ ((j + 1 : Nat) : Int))), (4, .int (iZ ((a + 1 : Nat) : Int))), (0, .ref (ad 66)), (1, .int (iZ (bZ false))), (2, .int (iZ k)), (3, .int (iZ 0)), (6, .int (iZ ((bf : Nat) : Int))), (7, .int (iZ ((i : Nat) : Int)))] dX5_line_186 rfl rfl (by decide) rfl ?_
                            refine q_goto hc 73 dX5_line_189 (by decide) ?_
                            refine V.sub [2, 3, 4, 5, 1, 0] rfl ?_
                            exact ih73 (j + 1, a + 1) (by omega) ⟨(by omega), (by rw [cnt_s, ha, acr_cnt, ← show i = pn j by omega]; rw [decide_eq_true (by rw [← hb]; omega)]; rfl)⟩
                      · have e9 : mP pi (5 * j + i) = pi j i := mP_at (by omega)
                        have hp9 := hpif j i (by omega); have m1 := Nat.mod_lt (pi j i) (show 0 < w by omega); have m2 := Nat.div_le_self (pi j i) w; have m3 := Int.natCast_nonneg (pi j i / w); have m4 := Int.natCast_nonneg (pi j i % w)
                        refine q_aload_n hc 0 dX5_line_104 rfl ?_
                        refine q_get hc 66 7 i5 hq33 rfl (by decide) f19 rfl rfl dX5_line_105 ?_
                        refine q_iconstN hc 5 dX5_line_108 rfl ?_
                        refine q_iload hc 5 dX5_line_109 rfl ?_
                        refine q_imulN hc dX5_line_111 ?_
                        refine q_iload hc 7 dX5_line_112 rfl ?_
                        refine q_iaddN hc dX5_line_114 ?_
                        refine q_ialdN (j := 5 * j + i) hc 70 hq31 rfl (by omega) (by omega) dX5_line_115 ?_
                        refine V.topi (show _ = ((pi j i : Nat) : Int) from congrArg (fun a : Nat => (a : Int)) e9) ?_
                        refine q_istore hc [(8, .int (iZ ((pi j i : Nat) : Int))), (0, .ref (ad 66)), (1, .int (iZ (bZ false))), (2, .int (iZ k)), (3, .int (iZ 0)), (4, .int (iZ ((a : Nat) : Int))), (5, .int (iZ ((j : Nat) : Int))), (6, .int (iZ ((bf : Nat) : Int))), (7, .int (iZ ((i : Nat) : Int)))] dX5_line_116 (by decide) rfl ?_
                        refine q_iload hc 7 dX5_line_118 rfl ?_
                        refine q_iload_n hc 2 dX5_line_120 rfl ?_
                        refine q_ifz_eq hc 134 dX5_line_121 (by decide) (fun c45 => ?_) (fun c45 => ?_)
                        · refine q_iload hc 0 dX5_line_134 rfl ?_
                          refine q_aload_n hc 1 dX5_line_136 rfl ?_
                          refine q_get hc 66 1 i5 hq33 rfl (by decide) f45 rfl rfl dX5_line_137 ?_
                          refine q_iremN hc dX5_line_140 (by omega) (by omega) ?_
                          refine q_iload_n hc 3 dX5_line_141 rfl ?_
                          refine V.topi (show _ = ((k.toNat : Nat) : Int) from by omega) ?_
                          refine q_icmpN_gt hc 149 dX5_line_142 (by decide) (by omega) (by omega) (fun c46 => ?_) (fun c46 => ?_)
                          · refine q_iconstN hc 0 dX5_line_149 rfl ?_
                            refine q_iaddN hc dX5_line_150 ?_
                            refine q_istore hc [(6, .int (iZ ((bf + 0 : Nat) : Int))), (8, .int (iZ ((pi j i : Nat) : Int))), (0, .ref (ad 66)), (1, .int (iZ (bZ false))), (2, .int (iZ k)), (3, .int (iZ 0)), (4, .int (iZ ((a : Nat) : Int))), (5, .int (iZ ((j : Nat) : Int))), (7, .int (iZ ((i : Nat) : Int)))] dX5_line_151 (by decide) rfl ?_
                            refine q_iincN (q := 8) hc 1 [(7, .int (iZ ((i + 1 : Nat) : Int))), (6, .int (iZ ((bf + 0 : Nat) : Int))), (8, .int (iZ ((pi j i : Nat) : Int))), (0, .ref (ad 66)), (1, .int (iZ (bZ false))), (2, .int (iZ k)), (3, .int (iZ 0)), (4, .int (iZ ((a : Nat) : Int))), (5, .int (iZ ((j : Nat) : Int)))] dX5_line_153 rfl rfl (by decide) rfl ?_
                            refine q_goto hc 92 dX5_line_156 (by decide) ?_
                            refine V.sub [3, 4, 5, 6, 7, 8, 1, 0] rfl ?_
                            exact ih92 (i + 1, bf + 0) (by omega) ⟨(by omega), (by rw [cnt_s, hb, show decide (plc w false (pi j i) ≤ k.toNat) = false from decide_eq_false (show ¬ (pi j i % w ≤ k.toNat) by omega)]; rfl)⟩
                          · refine q_iconstN hc 1 dX5_line_145 rfl ?_
                            refine q_goto hc 150 dX5_line_146 (by decide) ?_
                            refine q_iaddN hc dX5_line_150 ?_
                            refine q_istore hc [(6, .int (iZ ((bf + 1 : Nat) : Int))), (8, .int (iZ ((pi j i : Nat) : Int))), (0, .ref (ad 66)), (1, .int (iZ (bZ false))), (2, .int (iZ k)), (3, .int (iZ 0)), (4, .int (iZ ((a : Nat) : Int))), (5, .int (iZ ((j : Nat) : Int))), (7, .int (iZ ((i : Nat) : Int)))] dX5_line_151 (by decide) rfl ?_
                            refine q_iincN (q := 8) hc 1 [(7, .int (iZ ((i + 1 : Nat) : Int))), (6, .int (iZ ((bf + 1 : Nat) : Int))), (8, .int (iZ ((pi j i : Nat) : Int))), (0, .ref (ad 66)), (1, .int (iZ (bZ false))), (2, .int (iZ k)), (3, .int (iZ 0)), (4, .int (iZ ((a : Nat) : Int))), (5, .int (iZ ((j : Nat) : Int)))] dX5_line_153 rfl rfl (by decide) rfl ?_
                            refine q_goto hc 92 dX5_line_156 (by decide) ?_
                            refine V.sub [3, 4, 5, 6, 7, 8, 1, 0] rfl ?_
                            exact ih92 (i + 1, bf + 1) (by omega) ⟨(by omega), (by rw [cnt_s, hb, show decide (plc w false (pi j i) ≤ k.toNat) = true from decide_eq_true (show (pi j i % w ≤ k.toNat) by omega)]; rfl)⟩
                        · cases c45
                · subst e1
                  refine q_iconstN hc 0 dX5_line_67 rfl ?_
                  refine q_istore hc [(4, .int (iZ ((0 : Nat) : Int))), (0, .ref (ad 66)), (1, .int (iZ (bZ false))), (2, .int (iZ k)), (3, .int (iZ 1))] dX5_line_68 (by decide) rfl ?_
                  refine q_iconstN hc 0 dX5_line_70 rfl ?_
                  refine q_istore hc [(5, .int (iZ ((0 : Nat) : Int))), (4, .int (iZ ((0 : Nat) : Int))), (0, .ref (ad 66)), (1, .int (iZ (bZ false))), (2, .int (iZ k)), (3, .int (iZ 1))] dX5_line_71 (by decide) rfl ?_
                  refine q_iload hc 0 dX5_line_73 rfl ?_
                  refine q_aload_n hc 2 dX5_line_75 rfl ?_
                  refine q_get hc 66 5 i5 hq33 rfl (by decide) f63 rfl rfl dX5_line_76 ?_
                  refine q_icmpN_ge hc 192 dX5_line_79 (by decide) (by omega) (by omega) (fun c47 => ?_) (fun c47 => ?_)
                  · refine q_iconstN hc 0 dX5_line_192 rfl ?_
                    refine q_istore hc [(5, .int (iZ ((0 : Nat) : Int))), (4, .int (iZ ((0 : Nat) : Int))), (0, .ref (ad 66)), (1, .int (iZ (bZ false))), (2, .int (iZ k)), (3, .int (iZ 1))] dX5_line_193 (by decide) rfl ?_
                    refine V.sub [2, 3, 4, 5, 1, 0] rfl ?_
                    refine V.loopP (α := Nat × Nat) (fun x => h - x.1) (fun x => (x.1 ≤ h) ∧ (x.2 = sm (fun z9 => cap (lnB w k.toNat false z9)) x.1)) (fun x => [(0, .ref (ad 66)), (1, .int (iZ (bZ false))), (2, .int (iZ k)), (3, .int (iZ 1)), (4, .int (iZ ((x.2 : Nat) : Int))), (5, .int (iZ ((x.1 : Nat) : Int)))]) (0, 0) ⟨(Nat.zero_le _), (rfl)⟩ rfl ?_
                    intro x ih195 hI
                    obtain ⟨i, a⟩ := x
                    try dsimp only at ih195 hI ⊢
                    obtain ⟨hi0, ha⟩ := hI
                    refine q_iload hc 5 dX5_line_195 rfl ?_
                    refine q_iload_n hc 1 dX5_line_197 rfl ?_
                    refine q_ifz_eq hc 208 dX5_line_198 (by decide) (fun c49 => ?_) (fun c49 => ?_)
                    · refine q_aload_n hc 0 dX5_line_208 rfl ?_
                      refine q_get hc 66 2 i5 hq33 rfl (by decide) f49 rfl rfl dX5_line_209 ?_
                      refine q_icmpN_ge hc 278 dX5_line_212 (by decide) (by omega) (by omega) (fun c50 => ?_) (fun c50 => ?_)
                      · refine q_iload hc 4 dX5_line_278 rfl ?_
                        exact q_iretM (z := ((a : Nat) : Int)) hc (⟨congrArg (fun a : Nat => iZ (a : Int)) (show _ = lnV w h nc cap us pn pi false k.toNat 1 from by rw [ha, show i = h by omega]; rfl), hq33, (((fr0.trans fr7 (fun _ _ => by omega)).trans fr14 (fun _ _ => by omega)).trans fr27 (fun _ _ => by omega))⟩) hr hlk dX5_line_280
                      · refine q_iload_n hc 3 dX5_line_215 rfl ?_
                        refine q_if_le hc 278 dX5_line_216 (by decide) (by omega) (fun c51 => ?_) (fun c51 => ?_)
                        · exact absurd c51 (by omega)
                        · have hq9 := hxy k.toNat i (by omega) (by omega)
                          have hd9 := bN_le false
                          have hu9 := mA_bd hcap hc0 (show (k.toNat + w * i) + 64 * bN false < 128 by have := bN_le false; omega)
                          refine q_aload_n hc 0 dX5_line_219 rfl ?_
                          refine q_iload_n hc 1 dX5_line_220 rfl ?_
                          refine q_ifz_eq hc 229 dX5_line_221 (by decide) (fun c52 => ?_) (fun c52 => ?_)
                          · refine q_iload_n hc 2 dX5_line_229 rfl ?_
                            refine V.topi (show _ = ((k.toNat : Nat) : Int) from by omega) ?_
                            refine q_iload_n hc 1 dX5_line_230 rfl ?_
                            refine q_ifz_eq hc 238 dX5_line_231 (by decide) (fun c53 => ?_) (fun c53 => ?_)
                            · refine q_iload hc 5 dX5_line_238 rfl ?_
                              refine q_iload_n hc 1 dX5_line_240 rfl ?_
                              refine q_callPn (As := [.int (iZ ((k.toNat : Nat) : Int)), .int (iZ ((i : Nat) : Int)), .int (iZ (bZ false))]) (rest := []) hc (c_X5_numberOf l D K u24 ad w h 0 nc rc k.toNat i false hq33 ) (cwV 3 hc.1.2.2.2.2 gX5_line_X5_numberOf rfl rfl rfl (by decide +kernel) ⟨Nat.le_of_ble_eq_true rfl, Nat.le_of_ble_eq_true rfl⟩) 66 hq33 rfl rfl rfl (by decide) dX5_line_241 ⟨Nat.zero_le _, Nat.zero_le _⟩ ?_
                              refine q_istore hc [(6, .int (iZ ((k.toNat + w * i + 64 * bN false : Nat) : Int))), (0, .ref (ad 66)), (1, .int (iZ (bZ false))), (2, .int (iZ k)), (3, .int (iZ 1)), (4, .int (iZ ((a : Nat) : Int))), (5, .int (iZ ((i : Nat) : Int)))] dX5_line_244 (by decide) rfl ?_
                              refine q_iload hc 5 dX5_line_246 rfl ?_
                              refine q_iload_n hc 4 dX5_line_248 rfl ?_
                              refine q_iconstN hc 1 dX5_line_249 rfl ?_
                              refine q_icmp_ne hc 263 dX5_line_250 (by decide) (by omega) (by omega) (fun c56 => ?_) (fun c56 => ?_)
                              · exact absurd c56 (by omega)
                              · refine q_aload_n hc 1 dX5_line_253 rfl ?_
                                refine q_get hc 66 3 i5 hq33 rfl (by decide) f7 rfl rfl dX5_line_254 ?_
                                refine q_iload hc 0 dX5_line_257 rfl ?_
                                refine q_ialdN (j := k.toNat + w * i + 64 * bN false) hc 67 hq29 rfl (by omega) (by omega) dX5_line_259 ?_
                                refine q_goto hc 269 dX5_line_260 (by decide) ?_
                                refine q_iaddN hc dX5_line_269 ?_
                                refine q_istore hc [(4, .int (iZ ((a + ((mA n c0 cap) (k.toNat + w * i + 64 * bN false)) : Nat) : Int))), (6, .int (iZ ((k.toNat + w * i + 64 * bN false : Nat) : Int))), (0, .ref (ad 66)), (1, .int (iZ (bZ false))), (2, .int (iZ k)), (3, .int (iZ 1)), (5, .int (iZ ((i : Nat) : Int)))] dX5_line_270 (by decide) rfl ?_
                                refine q_iincN (q := 6) hc 1 [(5, .int (iZ ((i + 1 : Nat) : Int))), (4, .int (iZ ((a + ((mA n c0 cap) (k.toNat + w * i + 64 * bN false)) : Nat) : Int))), (6, .int (iZ ((k.toNat + w * i + 64 * bN false : Nat) : Int))), (0, .ref (ad 66)), (1, .int (iZ (bZ false))), (2, .int (iZ k)), (3, .int (iZ 1))] dX5_line_272 rfl rfl (by decide) rfl ?_
                                refine q_goto hc 195 dX5_line_275 (by decide) ?_
                                refine V.sub [3, 4, 5, 6, 1, 0] rfl ?_
                                exact ih195 (i + 1, a + ((mA n c0 cap) (k.toNat + w * i + 64 * bN false))) (by omega) ⟨(by omega), (by rw [sm_s, ha]; exact congrArg _ (mA_at false hq9 hn))⟩
                            · cases c53
                          · cases c52
                    · cases c49
                  · refine q_iload_n hc 5 dX5_line_82 rfl ?_
                    refine q_if_ne hc 192 dX5_line_83 (by decide) (by omega) (fun c57 => ?_) (fun c57 => ?_)
                    · refine q_iconstN hc 0 dX5_line_192 rfl ?_
                      refine q_istore hc [(5, .int (iZ ((0 : Nat) : Int))), (4, .int (iZ ((0 : Nat) : Int))), (0, .ref (ad 66)), (1, .int (iZ (bZ false))), (2, .int (iZ k)), (3, .int (iZ 1))] dX5_line_193 (by decide) rfl ?_
                      refine V.sub [2, 3, 4, 5, 1, 0] rfl ?_
                      refine V.loopP (α := Nat × Nat) (fun x => h - x.1) (fun x => (x.1 ≤ h) ∧ (x.2 = sm (fun z9 => cap (lnB w k.toNat false z9)) x.1)) (fun x => [(0, .ref (ad 66)), (1, .int (iZ (bZ false))), (2, .int (iZ k)), (3, .int (iZ 1)), (4, .int (iZ ((x.2 : Nat) : Int))), (5, .int (iZ ((x.1 : Nat) : Int)))]) (0, 0) ⟨(Nat.zero_le _), (rfl)⟩ rfl ?_
                      intro x ih195 hI
                      obtain ⟨i, a⟩ := x
                      try dsimp only at ih195 hI ⊢
                      obtain ⟨hi0, ha⟩ := hI
                      refine q_iload hc 5 dX5_line_195 rfl ?_
                      refine q_iload_n hc 1 dX5_line_197 rfl ?_
                      refine q_ifz_eq hc 208 dX5_line_198 (by decide) (fun c59 => ?_) (fun c59 => ?_)
                      · refine q_aload_n hc 0 dX5_line_208 rfl ?_
                        refine q_get hc 66 2 i5 hq33 rfl (by decide) f49 rfl rfl dX5_line_209 ?_
                        refine q_icmpN_ge hc 278 dX5_line_212 (by decide) (by omega) (by omega) (fun c60 => ?_) (fun c60 => ?_)
                        · refine q_iload hc 4 dX5_line_278 rfl ?_
                          exact q_iretM (z := ((a : Nat) : Int)) hc (⟨congrArg (fun a : Nat => iZ (a : Int)) (show _ = lnV w h nc cap us pn pi false k.toNat 1 from by rw [ha, show i = h by omega]; rfl), hq33, (((fr0.trans fr7 (fun _ _ => by omega)).trans fr14 (fun _ _ => by omega)).trans fr27 (fun _ _ => by omega))⟩) hr hlk dX5_line_280
                        · refine q_iload_n hc 3 dX5_line_215 rfl ?_
                          refine q_if_le hc 278 dX5_line_216 (by decide) (by omega) (fun c61 => ?_) (fun c61 => ?_)
                          · exact absurd c61 (by omega)
                          · have hq9 := hxy k.toNat i (by omega) (by omega)
                            have hd9 := bN_le false
                            have hu9 := mA_bd hcap hc0 (show (k.toNat + w * i) + 64 * bN false < 128 by have := bN_le false; omega)
                            refine q_aload_n hc 0 dX5_line_219 rfl ?_
                            refine q_iload_n hc 1 dX5_line_220 rfl ?_
                            refine q_ifz_eq hc 229 dX5_line_221 (by decide) (fun c62 => ?_) (fun c62 => ?_)
                            · refine q_iload_n hc 2 dX5_line_229 rfl ?_
                              refine V.topi (show _ = ((k.toNat : Nat) : Int) from by omega) ?_
                              refine q_iload_n hc 1 dX5_line_230 rfl ?_
                              refine q_ifz_eq hc 238 dX5_line_231 (by decide) (fun c63 => ?_) (fun c63 => ?_)
                              · refine q_iload hc 5 dX5_line_238 rfl ?_
                                refine q_iload_n hc 1 dX5_line_240 rfl ?_
                                refine q_callPn (As := [.int (iZ ((k.toNat : Nat) : Int)), .int (iZ ((i : Nat) : Int)), .int (iZ (bZ false))]) (rest := []) hc (c_X5_numberOf l D K u24 ad w h 0 nc rc k.toNat i false hq33 ) (cwV 3 hc.1.2.2.2.2 gX5_line_X5_numberOf rfl rfl rfl (by decide +kernel) ⟨Nat.le_of_ble_eq_true rfl, Nat.le_of_ble_eq_true rfl⟩) 66 hq33 rfl rfl rfl (by decide) dX5_line_241 ⟨Nat.zero_le _, Nat.zero_le _⟩ ?_
                                refine q_istore hc [(6, .int (iZ ((k.toNat + w * i + 64 * bN false : Nat) : Int))), (0, .ref (ad 66)), (1, .int (iZ (bZ false))), (2, .int (iZ k)), (3, .int (iZ 1)), (4, .int (iZ ((a : Nat) : Int))), (5, .int (iZ ((i : Nat) : Int)))] dX5_line_244 (by decide) rfl ?_
                                refine q_iload hc 5 dX5_line_246 rfl ?_
                                refine q_iload_n hc 4 dX5_line_248 rfl ?_
                                refine q_iconstN hc 1 dX5_line_249 rfl ?_
                                refine q_icmp_ne hc 263 dX5_line_250 (by decide) (by omega) (by omega) (fun c66 => ?_) (fun c66 => ?_)
                                · exact absurd c66 (by omega)
                                · refine q_aload_n hc 1 dX5_line_253 rfl ?_
                                  refine q_get hc 66 3 i5 hq33 rfl (by decide) f7 rfl rfl dX5_line_254 ?_
                                  refine q_iload hc 0 dX5_line_257 rfl ?_
                                  refine q_ialdN (j := k.toNat + w * i + 64 * bN false) hc 67 hq29 rfl (by omega) (by omega) dX5_line_259 ?_
                                  refine q_goto hc 269 dX5_line_260 (by decide) ?_
                                  refine q_iaddN hc dX5_line_269 ?_
                                  refine q_istore hc [(4, .int (iZ ((a + ((mA n c0 cap) (k.toNat + w * i + 64 * bN false)) : Nat) : Int))), (6, .int (iZ ((k.toNat + w * i + 64 * bN false : Nat) : Int))), (0, .ref (ad 66)), (1, .int (iZ (bZ false))), (2, .int (iZ k)), (3, .int (iZ 1)), (5, .int (iZ ((i : Nat) : Int)))] dX5_line_270 (by decide) rfl ?_
                                  refine q_iincN (q := 6) hc 1 [(5, .int (iZ ((i + 1 : Nat) : Int))), (4, .int (iZ ((a + ((mA n c0 cap) (k.toNat + w * i + 64 * bN false)) : Nat) : Int))), (6, .int (iZ ((k.toNat + w * i + 64 * bN false : Nat) : Int))), (0, .ref (ad 66)), (1, .int (iZ (bZ false))), (2, .int (iZ k)), (3, .int (iZ 1))] dX5_line_272 rfl rfl (by decide) rfl ?_
                                  refine q_goto hc 195 dX5_line_275 (by decide) ?_
                                  refine V.sub [3, 4, 5, 6, 1, 0] rfl ?_
                                  exact ih195 (i + 1, a + ((mA n c0 cap) (k.toNat + w * i + 64 * bN false))) (by omega) ⟨(by omega), (by rw [sm_s, ha]; exact congrArg _ (mA_at false hq9 hn))⟩
                              · cases c63
                            · cases c62
                      · cases c59
                    · exact absurd c57 (by omega)
                · subst e2
                  refine q_iconstN hc 0 dX5_line_67 rfl ?_
                  refine q_istore hc [(4, .int (iZ ((0 : Nat) : Int))), (0, .ref (ad 66)), (1, .int (iZ (bZ false))), (2, .int (iZ k)), (3, .int (iZ 2))] dX5_line_68 (by decide) rfl ?_
                  refine q_iconstN hc 0 dX5_line_70 rfl ?_
                  refine q_istore hc [(5, .int (iZ ((0 : Nat) : Int))), (4, .int (iZ ((0 : Nat) : Int))), (0, .ref (ad 66)), (1, .int (iZ (bZ false))), (2, .int (iZ k)), (3, .int (iZ 2))] dX5_line_71 (by decide) rfl ?_
                  refine q_iload hc 0 dX5_line_73 rfl ?_
                  refine q_aload_n hc 2 dX5_line_75 rfl ?_
                  refine q_get hc 66 5 i5 hq33 rfl (by decide) f63 rfl rfl dX5_line_76 ?_
                  refine q_icmpN_ge hc 192 dX5_line_79 (by decide) (by omega) (by omega) (fun c67 => ?_) (fun c67 => ?_)
                  · refine q_iconstN hc 0 dX5_line_192 rfl ?_
                    refine q_istore hc [(5, .int (iZ ((0 : Nat) : Int))), (4, .int (iZ ((0 : Nat) : Int))), (0, .ref (ad 66)), (1, .int (iZ (bZ false))), (2, .int (iZ k)), (3, .int (iZ 2))] dX5_line_193 (by decide) rfl ?_
                    refine V.sub [2, 3, 4, 5, 1, 0] rfl ?_
                    refine V.loopP (α := Nat × Nat) (fun x => h - x.1) (fun x => (x.1 ≤ h) ∧ (x.2 = sm (fun z9 => us (lnB w k.toNat false z9)) x.1)) (fun x => [(0, .ref (ad 66)), (1, .int (iZ (bZ false))), (2, .int (iZ k)), (3, .int (iZ 2)), (4, .int (iZ ((x.2 : Nat) : Int))), (5, .int (iZ ((x.1 : Nat) : Int)))]) (0, 0) ⟨(Nat.zero_le _), (rfl)⟩ rfl ?_
                    intro x ih195 hI
                    obtain ⟨i, a⟩ := x
                    try dsimp only at ih195 hI ⊢
                    obtain ⟨hi0, ha⟩ := hI
                    refine q_iload hc 5 dX5_line_195 rfl ?_
                    refine q_iload_n hc 1 dX5_line_197 rfl ?_
                    refine q_ifz_eq hc 208 dX5_line_198 (by decide) (fun c69 => ?_) (fun c69 => ?_)
                    · refine q_aload_n hc 0 dX5_line_208 rfl ?_
                      refine q_get hc 66 2 i5 hq33 rfl (by decide) f49 rfl rfl dX5_line_209 ?_
                      refine q_icmpN_ge hc 278 dX5_line_212 (by decide) (by omega) (by omega) (fun c70 => ?_) (fun c70 => ?_)
                      · refine q_iload hc 4 dX5_line_278 rfl ?_
                        exact q_iretM (z := ((a : Nat) : Int)) hc (⟨congrArg (fun a : Nat => iZ (a : Int)) (show _ = lnV w h nc cap us pn pi false k.toNat 2 from by rw [ha, show i = h by omega]; rfl), hq33, (((fr0.trans fr7 (fun _ _ => by omega)).trans fr14 (fun _ _ => by omega)).trans fr27 (fun _ _ => by omega))⟩) hr hlk dX5_line_280
                      · refine q_iload_n hc 3 dX5_line_215 rfl ?_
                        refine q_if_le hc 278 dX5_line_216 (by decide) (by omega) (fun c71 => ?_) (fun c71 => ?_)
                        · exact absurd c71 (by omega)
                        · have hq9 := hxy k.toNat i (by omega) (by omega)
                          have hd9 := bN_le false
                          refine q_aload_n hc 0 dX5_line_219 rfl ?_
                          refine q_iload_n hc 1 dX5_line_220 rfl ?_
                          refine q_ifz_eq hc 229 dX5_line_221 (by decide) (fun c72 => ?_) (fun c72 => ?_)
                          · refine q_iload_n hc 2 dX5_line_229 rfl ?_
                            refine V.topi (show _ = ((k.toNat : Nat) : Int) from by omega) ?_
                            refine q_iload_n hc 1 dX5_line_230 rfl ?_
                            refine q_ifz_eq hc 238 dX5_line_231 (by decide) (fun c73 => ?_) (fun c73 => ?_)
                            · refine q_iload hc 5 dX5_line_238 rfl ?_
                              refine q_iload_n hc 1 dX5_line_240 rfl ?_
                              refine q_callPn (As := [.int (iZ ((k.toNat : Nat) : Int)), .int (iZ ((i : Nat) : Int)), .int (iZ (bZ false))]) (rest := []) hc (c_X5_numberOf l D K u24 ad w h 0 nc rc k.toNat i false hq33 ) (cwV 3 hc.1.2.2.2.2 gX5_line_X5_numberOf rfl rfl rfl (by decide +kernel) ⟨Nat.le_of_ble_eq_true rfl, Nat.le_of_ble_eq_true rfl⟩) 66 hq33 rfl rfl rfl (by decide) dX5_line_241 ⟨Nat.zero_le _, Nat.zero_le _⟩ ?_
                              refine q_istore hc [(6, .int (iZ ((k.toNat + w * i + 64 * bN false : Nat) : Int))), (0, .ref (ad 66)), (1, .int (iZ (bZ false))), (2, .int (iZ k)), (3, .int (iZ 2)), (4, .int (iZ ((a : Nat) : Int))), (5, .int (iZ ((i : Nat) : Int)))] dX5_line_244 (by decide) rfl ?_
                              refine q_iload hc 5 dX5_line_246 rfl ?_
                              refine q_iload_n hc 4 dX5_line_248 rfl ?_
                              refine q_iconstN hc 1 dX5_line_249 rfl ?_
                              refine q_icmp_ne hc 263 dX5_line_250 (by decide) (by omega) (by omega) (fun c76 => ?_) (fun c76 => ?_)
                              · refine q_aload_n hc 1 dX5_line_263 rfl ?_
                                refine q_iload hc 0 dX5_line_264 rfl ?_
                                refine q_callPn (As := [.int (iZ ((k.toNat + w * i + 64 * bN false : Nat) : Int))]) (rest := [.int (iZ ((a : Nat) : Int))]) hc (c_X5_use l D K u24 ad w h n 0 nc rc (k.toNat + w * i + 64 * bN false) _ ro hq33 hq32 (by have := bN_le false; omega) hnc hUC) (cwV 1 hc.1.2.2.2.2 gX5_line_X5_use rfl rfl rfl (by decide +kernel) ⟨Nat.le_of_ble_eq_true rfl, Nat.le_of_ble_eq_true rfl⟩) 66 hq33 rfl rfl rfl (by simp [Value.category]) dX5_line_266 ⟨Nat.zero_le _, Nat.zero_le _⟩ ?_
                                refine q_iaddN hc dX5_line_269 ?_
                                refine q_istore hc [(4, .int (iZ ((a + (mA n 0 us (k.toNat + w * i + 64 * bN false)) : Nat) : Int))), (6, .int (iZ ((k.toNat + w * i + 64 * bN false : Nat) : Int))), (0, .ref (ad 66)), (1, .int (iZ (bZ false))), (2, .int (iZ k)), (3, .int (iZ 2)), (5, .int (iZ ((i : Nat) : Int)))] dX5_line_270 (by decide) rfl ?_
                                refine q_iincN (q := 6) hc 1 [(5, .int (iZ ((i + 1 : Nat) : Int))), (4, .int (iZ ((a + (mA n 0 us (k.toNat + w * i + 64 * bN false)) : Nat) : Int))), (6, .int (iZ ((k.toNat + w * i + 64 * bN false : Nat) : Int))), (0, .ref (ad 66)), (1, .int (iZ (bZ false))), (2, .int (iZ k)), (3, .int (iZ 2))] dX5_line_272 rfl rfl (by decide) rfl ?_
                                refine q_goto hc 195 dX5_line_275 (by decide) ?_
                                refine V.sub [3, 4, 5, 6, 1, 0] rfl ?_
                                exact ih195 (i + 1, a + (mA n 0 us (k.toNat + w * i + 64 * bN false))) (by omega) ⟨(by omega), (by rw [sm_s, ha]; exact congrArg _ (mA_at false hq9 hn))⟩
                              · exact absurd c76 (by omega)
                            · cases c73
                          · cases c72
                    · cases c69
                  · refine q_iload_n hc 5 dX5_line_82 rfl ?_
                    refine q_if_ne hc 192 dX5_line_83 (by decide) (by omega) (fun c79 => ?_) (fun c79 => ?_)
                    · refine q_iconstN hc 0 dX5_line_192 rfl ?_
                      refine q_istore hc [(5, .int (iZ ((0 : Nat) : Int))), (4, .int (iZ ((0 : Nat) : Int))), (0, .ref (ad 66)), (1, .int (iZ (bZ false))), (2, .int (iZ k)), (3, .int (iZ 2))] dX5_line_193 (by decide) rfl ?_
                      refine V.sub [2, 3, 4, 5, 1, 0] rfl ?_
                      refine V.loopP (α := Nat × Nat) (fun x => h - x.1) (fun x => (x.1 ≤ h) ∧ (x.2 = sm (fun z9 => us (lnB w k.toNat false z9)) x.1)) (fun x => [(0, .ref (ad 66)), (1, .int (iZ (bZ false))), (2, .int (iZ k)), (3, .int (iZ 2)), (4, .int (iZ ((x.2 : Nat) : Int))), (5, .int (iZ ((x.1 : Nat) : Int)))]) (0, 0) ⟨(Nat.zero_le _), (rfl)⟩ rfl ?_
                      intro x ih195 hI
                      obtain ⟨i, a⟩ := x
                      try dsimp only at ih195 hI ⊢
                      obtain ⟨hi0, ha⟩ := hI
                      refine q_iload hc 5 dX5_line_195 rfl ?_
                      refine q_iload_n hc 1 dX5_line_197 rfl ?_
                      refine q_ifz_eq hc 208 dX5_line_198 (by decide) (fun c81 => ?_) (fun c81 => ?_)
                      · refine q_aload_n hc 0 dX5_line_208 rfl ?_
                        refine q_get hc 66 2 i5 hq33 rfl (by decide) f49 rfl rfl dX5_line_209 ?_
                        refine q_icmpN_ge hc 278 dX5_line_212 (by decide) (by omega) (by omega) (fun c82 => ?_) (fun c82 => ?_)
                        · refine q_iload hc 4 dX5_line_278 rfl ?_
                          exact q_iretM (z := ((a : Nat) : Int)) hc (⟨congrArg (fun a : Nat => iZ (a : Int)) (show _ = lnV w h nc cap us pn pi false k.toNat 2 from by rw [ha, show i = h by omega]; rfl), hq33, (((fr0.trans fr7 (fun _ _ => by omega)).trans fr14 (fun _ _ => by omega)).trans fr27 (fun _ _ => by omega))⟩) hr hlk dX5_line_280
                        · refine q_iload_n hc 3 dX5_line_215 rfl ?_
                          refine q_if_le hc 278 dX5_line_216 (by decide) (by omega) (fun c83 => ?_) (fun c83 => ?_)
                          · exact absurd c83 (by omega)
                          · have hq9 := hxy k.toNat i (by omega) (by omega)
                            have hd9 := bN_le false
                            refine q_aload_n hc 0 dX5_line_219 rfl ?_
                            refine q_iload_n hc 1 dX5_line_220 rfl ?_
                            refine q_ifz_eq hc 229 dX5_line_221 (by decide) (fun c84 => ?_) (fun c84 => ?_)
                            · refine q_iload_n hc 2 dX5_line_229 rfl ?_
                              refine V.topi (show _ = ((k.toNat : Nat) : Int) from by omega) ?_
                              refine q_iload_n hc 1 dX5_line_230 rfl ?_
                              refine q_ifz_eq hc 238 dX5_line_231 (by decide) (fun c85 => ?_) (fun c85 => ?_)
                              · refine q_iload hc 5 dX5_line_238 rfl ?_
                                refine q_iload_n hc 1 dX5_line_240 rfl ?_
                                refine q_callPn (As := [.int (iZ ((k.toNat : Nat) : Int)), .int (iZ ((i : Nat) : Int)), .int (iZ (bZ false))]) (rest := []) hc (c_X5_numberOf l D K u24 ad w h 0 nc rc k.toNat i false hq33 ) (cwV 3 hc.1.2.2.2.2 gX5_line_X5_numberOf rfl rfl rfl (by decide +kernel) ⟨Nat.le_of_ble_eq_true rfl, Nat.le_of_ble_eq_true rfl⟩) 66 hq33 rfl rfl rfl (by decide) dX5_line_241 ⟨Nat.zero_le _, Nat.zero_le _⟩ ?_
                                refine q_istore hc [(6, .int (iZ ((k.toNat + w * i + 64 * bN false : Nat) : Int))), (0, .ref (ad 66)), (1, .int (iZ (bZ false))), (2, .int (iZ k)), (3, .int (iZ 2)), (4, .int (iZ ((a : Nat) : Int))), (5, .int (iZ ((i : Nat) : Int)))] dX5_line_244 (by decide) rfl ?_
                                refine q_iload hc 5 dX5_line_246 rfl ?_
                                refine q_iload_n hc 4 dX5_line_248 rfl ?_
                                refine q_iconstN hc 1 dX5_line_249 rfl ?_
                                refine q_icmp_ne hc 263 dX5_line_250 (by decide) (by omega) (by omega) (fun c88 => ?_) (fun c88 => ?_)
                                · refine q_aload_n hc 1 dX5_line_263 rfl ?_
                                  refine q_iload hc 0 dX5_line_264 rfl ?_
                                  refine q_callPn (As := [.int (iZ ((k.toNat + w * i + 64 * bN false : Nat) : Int))]) (rest := [.int (iZ ((a : Nat) : Int))]) hc (c_X5_use l D K u24 ad w h n 0 nc rc (k.toNat + w * i + 64 * bN false) _ ro hq33 hq32 (by have := bN_le false; omega) hnc hUC) (cwV 1 hc.1.2.2.2.2 gX5_line_X5_use rfl rfl rfl (by decide +kernel) ⟨Nat.le_of_ble_eq_true rfl, Nat.le_of_ble_eq_true rfl⟩) 66 hq33 rfl rfl rfl (by simp [Value.category]) dX5_line_266 ⟨Nat.zero_le _, Nat.zero_le _⟩ ?_
                                  refine q_iaddN hc dX5_line_269 ?_
                                  refine q_istore hc [(4, .int (iZ ((a + (mA n 0 us (k.toNat + w * i + 64 * bN false)) : Nat) : Int))), (6, .int (iZ ((k.toNat + w * i + 64 * bN false : Nat) : Int))), (0, .ref (ad 66)), (1, .int (iZ (bZ false))), (2, .int (iZ k)), (3, .int (iZ 2)), (5, .int (iZ ((i : Nat) : Int)))] dX5_line_270 (by decide) rfl ?_
                                  refine q_iincN (q := 6) hc 1 [(5, .int (iZ ((i + 1 : Nat) : Int))), (4, .int (iZ ((a + (mA n 0 us (k.toNat + w * i + 64 * bN false)) : Nat) : Int))), (6, .int (iZ ((k.toNat + w * i + 64 * bN false : Nat) : Int))), (0, .ref (ad 66)), (1, .int (iZ (bZ false))), (2, .int (iZ k)), (3, .int (iZ 2))] dX5_line_272 rfl rfl (by decide) rfl ?_
                                  refine q_goto hc 195 dX5_line_275 (by decide) ?_
                                  refine V.sub [3, 4, 5, 6, 1, 0] rfl ?_
                                  exact ih195 (i + 1, a + (mA n 0 us (k.toNat + w * i + 64 * bN false))) (by omega) ⟨(by omega), (by rw [sm_s, ha]; exact congrArg _ (mA_at false hq9 hn))⟩
                                · exact absurd c88 (by omega)
                              · cases c85
                            · cases c84
                      · cases c81
                    · exact absurd c79 (by omega)
              · cases c34
            · exact absurd c23 (by omega)
      · exact absurd c10 (by omega)
    · subst c9
      have hk9 : 0 ≤ k ∧ k < (h : Int) - 1 := hkk
      refine q_aload_n hc 0 dX5_line_15 rfl ?_
      refine q_get hc 66 2 i5 hq2 rfl (by decide) f49 rfl rfl dX5_line_16 ?_
      refine q_goto hc 26 dX5_line_19 (by decide) ?_
      refine q_iconstN hc 1 dX5_line_26 rfl ?_
      refine q_isub hc dX5_line_27 ?_
      refine q_icmp_lt hc 35 dX5_line_28 (by decide) (by omega) (by omega) (fun c91 => ?_) (fun c91 => ?_)
      · refine q_iconstN hc 0 dX5_line_35 rfl ?_
        refine q_iconstN hc 1 dX5_line_36 rfl ?_
        refine q_callMi (As := [.int (iZ (bZ false)), .int (iZ ((1 : Nat) : Int))]) (rest := []) hc (c_X5_fails l D K u1 ad w h nc rc false 1 hq2 (by omega)) (cwV 2 hc.1.2.2.2.2 gX5_line_X5_fails rfl rfl rfl (by decide +kernel) ⟨Nat.le_of_ble_eq_true rfl, Nat.le_of_ble_eq_true rfl⟩) 66 hq2 rfl rfl rfl (by decide) dX5_line_37 ⟨Nat.zero_le _, Nat.zero_le _⟩ (fun r93 u92 hp' => ?_)
        obtain ⟨hr96, hq94, fr95⟩ := hp'
        have hq97 := (fr95.at 67 (by omega)).trans hq3
        have hq98 := (fr95.at 69 (by omega)).trans hq4
        have hq99 := (fr95.at 70 (by omega)).trans hq5
        have hq100 := (fr95.at 72 (by omega)).trans hq6
        subst hr96
        have hq101 : u92[66]? = some (ad 66, mO ad w h 0 nc rc) := hq94
        refine q_ifz_ne hc 65 dX5_line_40 (by decide) (fun c102 => ?_) (fun c102 => ?_)
        · cases c102
        · refine q_aload_n hc 0 dX5_line_43 rfl ?_
          refine q_iload_n hc 3 dX5_line_44 rfl ?_
          refine q_if_lt hc 53 dX5_line_45 (by decide) (by omega) (fun c103 => ?_) (fun c103 => ?_)
          · exact absurd c103 (by omega)
          · refine q_iload_n hc 3 dX5_line_48 rfl ?_
            refine q_iconstN hc 2 dX5_line_49 rfl ?_
            refine q_icmp_le hc 57 dX5_line_50 (by decide) (by omega) (by omega) (fun c104 => ?_) (fun c104 => ?_)
            · refine q_iconstN hc 0 dX5_line_57 rfl ?_
              refine q_iconstN hc 2 dX5_line_58 rfl ?_
              refine q_callMi (As := [.int (iZ (bZ false)), .int (iZ ((2 : Nat) : Int))]) (rest := []) hc (c_X5_fails l D K u92 ad w h nc rc false 2 hq101 (by omega)) (cwV 2 hc.1.2.2.2.2 gX5_line_X5_fails rfl rfl rfl (by decide +kernel) ⟨Nat.le_of_ble_eq_true rfl, Nat.le_of_ble_eq_true rfl⟩) 66 hq101 rfl rfl rfl (by decide) dX5_line_59 ⟨Nat.zero_le _, Nat.zero_le _⟩ (fun r106 u105 hp' => ?_)
              obtain ⟨hr109, hq107, fr108⟩ := hp'
              have hq110 := (fr108.at 67 (by omega)).trans hq97
              have hq111 := (fr108.at 69 (by omega)).trans hq98
              have hq112 := (fr108.at 70 (by omega)).trans hq99
              have hq113 := (fr108.at 72 (by omega)).trans hq100
              subst hr109
              have hq114 : u105[66]? = some (ad 66, mO ad w h 0 nc rc) := hq107
              refine q_ifz_eq hc 67 dX5_line_62 (by decide) (fun c115 => ?_) (fun c115 => ?_)
              · rcases (show what = 0 ∨ what = 1 ∨ what = 2 by omega) with e0 | e1 | e2
                · subst e0
                  refine q_iconstN hc 0 dX5_line_67 rfl ?_
                  refine q_istore hc [(4, .int (iZ ((0 : Nat) : Int))), (0, .ref (ad 66)), (1, .int (iZ (bZ true))), (2, .int (iZ k)), (3, .int (iZ 0))] dX5_line_68 (by decide) rfl ?_
                  refine q_iconstN hc 0 dX5_line_70 rfl ?_
                  refine q_istore hc [(5, .int (iZ ((0 : Nat) : Int))), (4, .int (iZ ((0 : Nat) : Int))), (0, .ref (ad 66)), (1, .int (iZ (bZ true))), (2, .int (iZ k)), (3, .int (iZ 0))] dX5_line_71 (by decide) rfl ?_
                  refine V.sub [2, 3, 4, 5, 1, 0] rfl ?_
                  refine V.loopP (α := Nat × Nat) (fun x => nc - x.1) (fun x => (x.1 ≤ nc) ∧ (x.2 = cnt (fun z9 => acr w true k.toNat (pn z9) (pi z9)) x.1)) (fun x => [(0, .ref (ad 66)), (1, .int (iZ (bZ true))), (2, .int (iZ k)), (3, .int (iZ 0)), (4, .int (iZ ((x.2 : Nat) : Int))), (5, .int (iZ ((x.1 : Nat) : Int)))]) (0, 0) ⟨(Nat.zero_le _), (rfl)⟩ rfl ?_
                  intro x ih73 hI
                  obtain ⟨j, a⟩ := x
                  try dsimp only at ih73 hI ⊢
                  obtain ⟨hj0, ha⟩ := hI
                  refine q_iload hc 5 dX5_line_73 rfl ?_
                  refine q_aload_n hc 0 dX5_line_75 rfl ?_
                  refine q_get hc 66 5 i5 hq114 rfl (by decide) f63 rfl rfl dX5_line_76 ?_
                  refine q_icmpN_ge hc 192 dX5_line_79 (by decide) (by omega) (by omega) (fun c117 => ?_) (fun c117 => ?_)
                  · refine q_iconstN hc 0 dX5_line_192 rfl ?_
                    refine q_istore hc [(5, .int (iZ ((0 : Nat) : Int))), (0, .ref (ad 66)), (1, .int (iZ (bZ true))), (2, .int (iZ k)), (3, .int (iZ 0)), (4, .int (iZ ((a : Nat) : Int)))] dX5_line_193 (by decide) rfl ?_
                    refine q_iload hc 0 dX5_line_195 rfl ?_
                    refine q_iload_n hc 2 dX5_line_197 rfl ?_
                    refine q_ifz_eq hc 208 dX5_line_198 (by decide) (fun c118 => ?_) (fun c118 => ?_)
                    · cases c118
                    · refine q_aload_n hc 1 dX5_line_201 rfl ?_
                      refine q_get hc 66 1 i5 hq114 rfl (by decide) f45 rfl rfl dX5_line_202 ?_
                      refine q_goto hc 212 dX5_line_205 (by decide) ?_
                      refine q_icmpN_ge hc 278 dX5_line_212 (by decide) (by omega) (by omega) (fun c119 => ?_) (fun c119 => ?_)
                      · refine q_iload hc 5 dX5_line_278 rfl ?_
                        exact q_iretM (z := ((a : Nat) : Int)) hc (⟨congrArg (fun a : Nat => iZ (a : Int)) (show _ = lnV w h nc cap us pn pi true k.toNat 0 from by rw [ha, show j = nc by omega]; rfl), hq114, (((fr0.trans fr7 (fun _ _ => by omega)).trans fr95 (fun _ _ => by omega)).trans fr108 (fun _ _ => by omega))⟩) hr hlk dX5_line_280
                      · refine q_iload_n hc 4 dX5_line_215 rfl ?_
                        refine q_if_le hc 278 dX5_line_216 (by decide) (by omega) (fun c120 => ?_) (fun c120 => ?_)
                        · refine q_iload hc 5 dX5_line_278 rfl ?_
                          exact q_iretM (z := ((a : Nat) : Int)) hc (⟨congrArg (fun a : Nat => iZ (a : Int)) (show _ = lnV w h nc cap us pn pi true k.toNat 0 from by rw [ha, show j = nc by omega]; rfl), hq114, (((fr0.trans fr7 (fun _ _ => by omega)).trans fr95 (fun _ _ => by omega)).trans fr108 (fun _ _ => by omega))⟩) hr hlk dX5_line_280
                        · exact absurd c120 (by omega)
                  · refine q_iload_n hc 3 dX5_line_82 rfl ?_
                    refine q_if_ne hc 192 dX5_line_83 (by decide) (by omega) (fun c121 => ?_) (fun c121 => ?_)
                    · exact absurd c121 (by omega)
                    · refine q_iconstN hc 0 dX5_line_86 rfl ?_
                      refine q_istore hc [(6, .int (iZ ((0 : Nat) : Int))), (0, .ref (ad 66)), (1, .int (iZ (bZ true))), (2, .int (iZ k)), (3, .int (iZ 0)), (4, .int (iZ ((a : Nat) : Int))), (5, .int (iZ ((j : Nat) : Int)))] dX5_line_87 (by decide) rfl ?_
                      refine q_iconstN hc 0 dX5_line_89 rfl ?_
                      refine q_istore hc [(7, .int (iZ ((0 : Nat) : Int))), (6, .int (iZ ((0 : Nat) : Int))), (0, .ref (ad 66)), (1, .int (iZ (bZ true))), (2, .int (iZ k)), (3, .int (iZ 0)), (4, .int (iZ ((a : Nat) : Int))), (5, .int (iZ ((j : Nat) : Int)))] dX5_line_90 (by decide) rfl ?_
                      refine V.sub [2, 3, 4, 5, 6, 7, 1, 0] rfl ?_
                      refine V.loopP (α := Nat × Nat) (fun x => pn j - x.1) (fun x => (x.1 ≤ pn j) ∧ (x.2 = cnt (fun z9 => decide (plc w true (pi j z9) ≤ k.toNat)) x.1)) (fun x => [(0, .ref (ad 66)), (1, .int (iZ (bZ true))), (2, .int (iZ k)), (3, .int (iZ 0)), (4, .int (iZ ((a : Nat) : Int))), (5, .int (iZ ((j : Nat) : Int))), (6, .int (iZ ((x.2 : Nat) : Int))), (7, .int (iZ ((x.1 : Nat) : Int)))]) (0, 0) ⟨(Nat.zero_le _), (rfl)⟩ rfl ?_
                      intro x ih92 hI
                      obtain ⟨i, bf⟩ := x
                      try dsimp only at ih92 hI ⊢
                      obtain ⟨hi0, hb⟩ := hI
                      refine q_iload hc 7 dX5_line_92 rfl ?_
                      refine q_aload_n hc 0 dX5_line_94 rfl ?_
                      refine q_get hc 66 6 i5 hq114 rfl (by decide) f16 rfl rfl dX5_line_95 ?_
                      refine q_iload hc 5 dX5_line_98 rfl ?_
                      refine q_ialdN (j := j) hc 69 hq111 rfl (by omega) (by omega) dX5_line_100 ?_
                      have u5 := hpn j (by omega)
                      refine q_icmpN_ge hc 159 dX5_line_101 (by decide) (by omega) (by omega) (fun c123 => ?_) (fun c123 => ?_)
                      · have u5 := hpn j (by omega); have u6 := cnt_le (fun z9 => decide (plc w true (pi j z9) ≤ k.toNat)) i
                        refine q_iload hc 4 dX5_line_159 rfl ?_
                        refine q_iload hc 6 dX5_line_161 rfl ?_
                        refine q_if_le hc 182 dX5_line_163 (by decide) (by omega) (fun c124 => ?_) (fun c124 => ?_)
                        · refine q_iconstN hc 0 dX5_line_182 rfl ?_
                          refine q_iaddN hc dX5_line_183 ?_
                          refine q_istore hc [(4, .int (iZ ((a + 0 : Nat) : Int))), (0, .ref (ad 66)), (1, .int (iZ (bZ true))), (2, .int (iZ k)), (3, .int (iZ 0)), (5, .int (iZ ((j : Nat) : Int))), (6, .int (iZ ((bf : Nat) : Int))), (7, .int (iZ ((i : Nat) : Int)))] dX5_line_184 (by decide) rfl ?_
                          refine q_iincN (q := 5) hc 1 [(5, .int (iZ ((j + 1 : Nat) : Int))), (4, .int (iZ ((a + 0 : Nat) : Int))), (0, .ref (ad 66)), (1, .int (iZ (bZ true))), (2, .int (iZ k)), (3, .int (iZ 0)), (6, .int (iZ ((bf : Nat) : Int))), (7, .int (iZ ((i : Nat) : Int)))] dX5_line_186 rfl rfl (by decide) rfl ?_
                          refine q_goto hc 73 dX5_line_189 (by decide) ?_
                          refine V.sub [2, 3, 4, 5, 1, 0] rfl ?_
                          exact ih73 (j + 1, a + 0) (by omega) ⟨(by omega), (by rw [cnt_s, ha, acr_cnt, ← show i = pn j by omega]; rw [decide_eq_false (by rw [← hb]; omega)]; rfl)⟩
                        · refine q_iload hc 6 dX5_line_166 rfl ?_
                          refine q_aload_n hc 0 dX5_line_168 rfl ?_
                          refine q_get hc 66 6 i5 hq114 rfl (by decide) f16 rfl rfl dX5_line_169 ?_
                          refine q_iload hc 5 dX5_line_172 rfl ?_
                          refine q_ialdN (j := j) hc 69 hq111 rfl (by omega) (by omega) dX5_line_174 ?_
                          refine q_icmpN_ge hc 182 dX5_line_175 (by decide) (by omega) (by omega) (fun c125 => ?_) (fun c125 => ?_)
                          · refine q_iconstN hc 0 dX5_line_182 rfl ?_
                            refine q_iaddN hc dX5_line_183 ?_
                            refine q_istore hc [(4, .int (iZ ((a + 0 : Nat) : Int))), (0, .ref (ad 66)), (1, .int (iZ (bZ true))), (2, .int (iZ k)), (3, .int (iZ 0)), (5, .int (iZ ((j : Nat) : Int))), (6, .int (iZ ((bf : Nat) : Int))), (7, .int (iZ ((i : Nat) : Int)))] dX5_line_184 (by decide) rfl ?_
                            refine q_iincN (q := 5) hc 1 [(5, .int (iZ ((j + 1 : Nat) : Int))), (4, .int (iZ ((a + 0 : Nat) : Int))), (0, .ref (ad 66)), (1, .int (iZ (bZ true))), (2, .int (iZ k)), (3, .int (iZ 0)), (6, .int (iZ ((bf : Nat) : Int))), (7, .int (iZ ((i : Nat) : Int)))] dX5_line_186 rfl rfl (by decide) rfl ?_
                            refine q_goto hc 73 dX5_line_189 (by decide) ?_
                            refine V.sub [2, 3, 4, 5, 1, 0] rfl ?_
                            exact ih73 (j + 1, a + 0) (by omega) ⟨(by omega), (by rw [cnt_s, ha, acr_cnt, ← show i = pn j by omega]; rw [decide_eq_false (by rw [← hb]; omega)]; rfl)⟩
                          · refine q_iconstN hc 1 dX5_line_178 rfl ?_
                            refine q_goto hc 183 dX5_line_179 (by decide) ?_
                            refine q_iaddN hc dX5_line_183 ?_
                            refine q_istore hc [(4, .int (iZ ((a + 1 : Nat) : Int))), (0, .ref (ad 66)), (1, .int (iZ (bZ true))), (2, .int (iZ k)), (3, .int (iZ 0)), (5, .int (iZ ((j : Nat) : Int))), (6, .int (iZ ((bf : Nat) : Int))), (7, .int (iZ ((i : Nat) : Int)))] dX5_line_184 (by decide) rfl ?_
                            refine q_iincN (q := 5) hc 1 [(5, .int (iZ ((j + 1 : Nat) : Int))), (4, .int (iZ ((a + 1 : Nat) : Int))), (0, .ref (ad 66)), (1, .int (iZ (bZ true))), (2, .int (iZ k)), (3, .int (iZ 0)), (6, .int (iZ ((bf : Nat) : Int))), (7, .int (iZ ((i : Nat) : Int)))] dX5_line_186 rfl rfl (by decide) rfl ?_
                            refine q_goto hc 73 dX5_line_189 (by decide) ?_
                            refine V.sub [2, 3, 4, 5, 1, 0] rfl ?_
                            exact ih73 (j + 1, a + 1) (by omega) ⟨(by omega), (by rw [cnt_s, ha, acr_cnt, ← show i = pn j by omega]; rw [decide_eq_true (by rw [← hb]; omega)]; rfl)⟩
                      · have e9 : mP pi (5 * j + i) = pi j i := mP_at (by omega)
                        have hp9 := hpif j i (by omega); have m1 := Nat.mod_lt (pi j i) (show 0 < w by omega); have m2 := Nat.div_le_self (pi j i) w; have m3 := Int.natCast_nonneg (pi j i / w); have m4 := Int.natCast_nonneg (pi j i % w)
                        refine q_aload_n hc 0 dX5_line_104 rfl ?_
                        refine q_get hc 66 7 i5 hq114 rfl (by decide) f19 rfl rfl dX5_line_105 ?_
                        refine q_iconstN hc 5 dX5_line_108 rfl ?_
                        refine q_iload hc 5 dX5_line_109 rfl ?_
                        refine q_imulN hc dX5_line_111 ?_
                        refine q_iload hc 7 dX5_line_112 rfl ?_
                        refine q_iaddN hc dX5_line_114 ?_
                        refine q_ialdN (j := 5 * j + i) hc 70 hq112 rfl (by omega) (by omega) dX5_line_115 ?_
                        refine V.topi (show _ = ((pi j i : Nat) : Int) from congrArg (fun a : Nat => (a : Int)) e9) ?_
                        refine q_istore hc [(8, .int (iZ ((pi j i : Nat) : Int))), (0, .ref (ad 66)), (1, .int (iZ (bZ true))), (2, .int (iZ k)), (3, .int (iZ 0)), (4, .int (iZ ((a : Nat) : Int))), (5, .int (iZ ((j : Nat) : Int))), (6, .int (iZ ((bf : Nat) : Int))), (7, .int (iZ ((i : Nat) : Int)))] dX5_line_116 (by decide) rfl ?_
                        refine q_iload hc 7 dX5_line_118 rfl ?_
                        refine q_iload_n hc 2 dX5_line_120 rfl ?_
                        refine q_ifz_eq hc 134 dX5_line_121 (by decide) (fun c126 => ?_) (fun c126 => ?_)
                        · cases c126
                        · refine q_iload hc 0 dX5_line_124 rfl ?_
                          refine q_aload_n hc 1 dX5_line_126 rfl ?_
                          refine q_get hc 66 1 i5 hq114 rfl (by decide) f45 rfl rfl dX5_line_127 ?_
                          refine q_idivN hc dX5_line_130 (by omega) (by omega) ?_
                          refine q_goto hc 141 dX5_line_131 (by decide) ?_
                          refine q_iload_n hc 3 dX5_line_141 rfl ?_
                          refine V.topi (show _ = ((k.toNat : Nat) : Int) from by omega) ?_
                          refine q_icmpN_gt hc 149 dX5_line_142 (by decide) (by omega) (by omega) (fun c127 => ?_) (fun c127 => ?_)
                          · refine q_iconstN hc 0 dX5_line_149 rfl ?_
                            refine q_iaddN hc dX5_line_150 ?_
                            refine q_istore hc [(6, .int (iZ ((bf + 0 : Nat) : Int))), (8, .int (iZ ((pi j i : Nat) : Int))), (0, .ref (ad 66)), (1, .int (iZ (bZ true))), (2, .int (iZ k)), (3, .int (iZ 0)), (4, .int (iZ ((a : Nat) : Int))), (5, .int (iZ ((j : Nat) : Int))), (7, .int (iZ ((i : Nat) : Int)))] dX5_line_151 (by decide) rfl ?_
                            refine q_iincN (q := 8) hc 1 [(7, .int (iZ ((i + 1 : Nat) : Int))), (6, .int (iZ ((bf + 0 : Nat) : Int))), (8, .int (iZ ((pi j i : Nat) : Int))), (0, .ref (ad 66)), (1, .int (iZ (bZ true))), (2, .int (iZ k)), (3, .int (iZ 0)), (4, .int (iZ ((a : Nat) : Int))), (5, .int (iZ ((j : Nat) : Int)))] dX5_line_153 rfl rfl (by decide) rfl ?_
                            refine q_goto hc 92 dX5_line_156 (by decide) ?_
                            refine V.sub [3, 4, 5, 6, 7, 8, 1, 0] rfl ?_
                            exact ih92 (i + 1, bf + 0) (by omega) ⟨(by omega), (by rw [cnt_s, hb, show decide (plc w true (pi j i) ≤ k.toNat) = false from decide_eq_false (show ¬ (pi j i / w ≤ k.toNat) by omega)]; rfl)⟩
                          · refine q_iconstN hc 1 dX5_line_145 rfl ?_
                            refine q_goto hc 150 dX5_line_146 (by decide) ?_
                            refine q_iaddN hc dX5_line_150 ?_
                            refine q_istore hc [(6, .int (iZ ((bf + 1 : Nat) : Int))), (8, .int (iZ ((pi j i : Nat) : Int))), (0, .ref (ad 66)), (1, .int (iZ (bZ true))), (2, .int (iZ k)), (3, .int (iZ 0)), (4, .int (iZ ((a : Nat) : Int))), (5, .int (iZ ((j : Nat) : Int))), (7, .int (iZ ((i : Nat) : Int)))] dX5_line_151 (by decide) rfl ?_
                            refine q_iincN (q := 8) hc 1 [(7, .int (iZ ((i + 1 : Nat) : Int))), (6, .int (iZ ((bf + 1 : Nat) : Int))), (8, .int (iZ ((pi j i : Nat) : Int))), (0, .ref (ad 66)), (1, .int (iZ (bZ true))), (2, .int (iZ k)), (3, .int (iZ 0)), (4, .int (iZ ((a : Nat) : Int))), (5, .int (iZ ((j : Nat) : Int)))] dX5_line_153 rfl rfl (by decide) rfl ?_
                            refine q_goto hc 92 dX5_line_156 (by decide) ?_
                            refine V.sub [3, 4, 5, 6, 7, 8, 1, 0] rfl ?_
                            exact ih92 (i + 1, bf + 1) (by omega) ⟨(by omega), (by rw [cnt_s, hb, show decide (plc w true (pi j i) ≤ k.toNat) = true from decide_eq_true (show (pi j i / w ≤ k.toNat) by omega)]; rfl)⟩
                · subst e1
                  refine q_iconstN hc 0 dX5_line_67 rfl ?_
                  refine q_istore hc [(4, .int (iZ ((0 : Nat) : Int))), (0, .ref (ad 66)), (1, .int (iZ (bZ true))), (2, .int (iZ k)), (3, .int (iZ 1))] dX5_line_68 (by decide) rfl ?_
                  refine q_iconstN hc 0 dX5_line_70 rfl ?_
                  refine q_istore hc [(5, .int (iZ ((0 : Nat) : Int))), (4, .int (iZ ((0 : Nat) : Int))), (0, .ref (ad 66)), (1, .int (iZ (bZ true))), (2, .int (iZ k)), (3, .int (iZ 1))] dX5_line_71 (by decide) rfl ?_
                  refine q_iload hc 0 dX5_line_73 rfl ?_
                  refine q_aload_n hc 2 dX5_line_75 rfl ?_
                  refine q_get hc 66 5 i5 hq114 rfl (by decide) f63 rfl rfl dX5_line_76 ?_
                  refine q_icmpN_ge hc 192 dX5_line_79 (by decide) (by omega) (by omega) (fun c128 => ?_) (fun c128 => ?_)
                  · refine q_iconstN hc 0 dX5_line_192 rfl ?_
                    refine q_istore hc [(5, .int (iZ ((0 : Nat) : Int))), (4, .int (iZ ((0 : Nat) : Int))), (0, .ref (ad 66)), (1, .int (iZ (bZ true))), (2, .int (iZ k)), (3, .int (iZ 1))] dX5_line_193 (by decide) rfl ?_
                    refine V.sub [2, 3, 4, 5, 1, 0] rfl ?_
                    refine V.loopP (α := Nat × Nat) (fun x => w - x.1) (fun x => (x.1 ≤ w) ∧ (x.2 = sm (fun z9 => cap (lnB w k.toNat true z9)) x.1)) (fun x => [(0, .ref (ad 66)), (1, .int (iZ (bZ true))), (2, .int (iZ k)), (3, .int (iZ 1)), (4, .int (iZ ((x.2 : Nat) : Int))), (5, .int (iZ ((x.1 : Nat) : Int)))]) (0, 0) ⟨(Nat.zero_le _), (rfl)⟩ rfl ?_
                    intro x ih195 hI
                    obtain ⟨i, a⟩ := x
                    try dsimp only at ih195 hI ⊢
                    obtain ⟨hi0, ha⟩ := hI
                    refine q_iload hc 5 dX5_line_195 rfl ?_
                    refine q_iload_n hc 1 dX5_line_197 rfl ?_
                    refine q_ifz_eq hc 208 dX5_line_198 (by decide) (fun c130 => ?_) (fun c130 => ?_)
                    · cases c130
                    · refine q_aload_n hc 0 dX5_line_201 rfl ?_
                      refine q_get hc 66 1 i5 hq114 rfl (by decide) f45 rfl rfl dX5_line_202 ?_
                      refine q_goto hc 212 dX5_line_205 (by decide) ?_
                      refine q_icmpN_ge hc 278 dX5_line_212 (by decide) (by omega) (by omega) (fun c131 => ?_) (fun c131 => ?_)
                      · refine q_iload hc 4 dX5_line_278 rfl ?_
                        exact q_iretM (z := ((a : Nat) : Int)) hc (⟨congrArg (fun a : Nat => iZ (a : Int)) (show _ = lnV w h nc cap us pn pi true k.toNat 1 from by rw [ha, show i = w by omega]; rfl), hq114, (((fr0.trans fr7 (fun _ _ => by omega)).trans fr95 (fun _ _ => by omega)).trans fr108 (fun _ _ => by omega))⟩) hr hlk dX5_line_280
                      · refine q_iload_n hc 3 dX5_line_215 rfl ?_
                        refine q_if_le hc 278 dX5_line_216 (by decide) (by omega) (fun c132 => ?_) (fun c132 => ?_)
                        · exact absurd c132 (by omega)
                        · have hq9 := hxy i k.toNat (by omega) (by omega)
                          have hd9 := bN_le true
                          have hu9 := mA_bd hcap hc0 (show (i + w * k.toNat) + 64 * bN true < 128 by have := bN_le true; omega)
                          refine q_aload_n hc 0 dX5_line_219 rfl ?_
                          refine q_iload_n hc 1 dX5_line_220 rfl ?_
                          refine q_ifz_eq hc 229 dX5_line_221 (by decide) (fun c133 => ?_) (fun c133 => ?_)
                          · cases c133
                          · refine q_iload hc 5 dX5_line_224 rfl ?_
                            refine q_goto hc 230 dX5_line_226 (by decide) ?_
                            refine q_iload_n hc 1 dX5_line_230 rfl ?_
                            refine q_ifz_eq hc 238 dX5_line_231 (by decide) (fun c134 => ?_) (fun c134 => ?_)
                            · cases c134
                            · refine q_iload_n hc 2 dX5_line_234 rfl ?_
                              refine q_goto hc 240 dX5_line_235 (by decide) ?_
                              refine V.topi (show _ = ((k.toNat : Nat) : Int) from by omega) ?_
                              refine q_iload_n hc 1 dX5_line_240 rfl ?_
                              refine q_callPn (As := [.int (iZ ((i : Nat) : Int)), .int (iZ ((k.toNat : Nat) : Int)), .int (iZ (bZ true))]) (rest := []) hc (c_X5_numberOf l D K u105 ad w h 0 nc rc i k.toNat true hq114 ) (cwV 3 hc.1.2.2.2.2 gX5_line_X5_numberOf rfl rfl rfl (by decide +kernel) ⟨Nat.le_of_ble_eq_true rfl, Nat.le_of_ble_eq_true rfl⟩) 66 hq114 rfl rfl rfl (by decide) dX5_line_241 ⟨Nat.zero_le _, Nat.zero_le _⟩ ?_
                              refine q_istore hc [(6, .int (iZ ((i + w * k.toNat + 64 * bN true : Nat) : Int))), (0, .ref (ad 66)), (1, .int (iZ (bZ true))), (2, .int (iZ k)), (3, .int (iZ 1)), (4, .int (iZ ((a : Nat) : Int))), (5, .int (iZ ((i : Nat) : Int)))] dX5_line_244 (by decide) rfl ?_
                              refine q_iload hc 5 dX5_line_246 rfl ?_
                              refine q_iload_n hc 4 dX5_line_248 rfl ?_
                              refine q_iconstN hc 1 dX5_line_249 rfl ?_
                              refine q_icmp_ne hc 263 dX5_line_250 (by decide) (by omega) (by omega) (fun c137 => ?_) (fun c137 => ?_)
                              · exact absurd c137 (by omega)
                              · refine q_aload_n hc 1 dX5_line_253 rfl ?_
                                refine q_get hc 66 3 i5 hq114 rfl (by decide) f7 rfl rfl dX5_line_254 ?_
                                refine q_iload hc 0 dX5_line_257 rfl ?_
                                refine q_ialdN (j := i + w * k.toNat + 64 * bN true) hc 67 hq110 rfl (by omega) (by omega) dX5_line_259 ?_
                                refine q_goto hc 269 dX5_line_260 (by decide) ?_
                                refine q_iaddN hc dX5_line_269 ?_
                                refine q_istore hc [(4, .int (iZ ((a + ((mA n c0 cap) (i + w * k.toNat + 64 * bN true)) : Nat) : Int))), (6, .int (iZ ((i + w * k.toNat + 64 * bN true : Nat) : Int))), (0, .ref (ad 66)), (1, .int (iZ (bZ true))), (2, .int (iZ k)), (3, .int (iZ 1)), (5, .int (iZ ((i : Nat) : Int)))] dX5_line_270 (by decide) rfl ?_
                                refine q_iincN (q := 6) hc 1 [(5, .int (iZ ((i + 1 : Nat) : Int))), (4, .int (iZ ((a + ((mA n c0 cap) (i + w * k.toNat + 64 * bN true)) : Nat) : Int))), (6, .int (iZ ((i + w * k.toNat + 64 * bN true : Nat) : Int))), (0, .ref (ad 66)), (1, .int (iZ (bZ true))), (2, .int (iZ k)), (3, .int (iZ 1))] dX5_line_272 rfl rfl (by decide) rfl ?_
                                refine q_goto hc 195 dX5_line_275 (by decide) ?_
                                refine V.sub [3, 4, 5, 6, 1, 0] rfl ?_
                                exact ih195 (i + 1, a + ((mA n c0 cap) (i + w * k.toNat + 64 * bN true))) (by omega) ⟨(by omega), (by rw [sm_s, ha]; exact congrArg _ (mA_at true hq9 hn))⟩
                  · refine q_iload_n hc 5 dX5_line_82 rfl ?_
                    refine q_if_ne hc 192 dX5_line_83 (by decide) (by omega) (fun c138 => ?_) (fun c138 => ?_)
                    · refine q_iconstN hc 0 dX5_line_192 rfl ?_
                      refine q_istore hc [(5, .int (iZ ((0 : Nat) : Int))), (4, .int (iZ ((0 : Nat) : Int))), (0, .ref (ad 66)), (1, .int (iZ (bZ true))), (2, .int (iZ k)), (3, .int (iZ 1))] dX5_line_193 (by decide) rfl ?_
                      refine V.sub [2, 3, 4, 5, 1, 0] rfl ?_
                      refine V.loopP (α := Nat × Nat) (fun x => w - x.1) (fun x => (x.1 ≤ w) ∧ (x.2 = sm (fun z9 => cap (lnB w k.toNat true z9)) x.1)) (fun x => [(0, .ref (ad 66)), (1, .int (iZ (bZ true))), (2, .int (iZ k)), (3, .int (iZ 1)), (4, .int (iZ ((x.2 : Nat) : Int))), (5, .int (iZ ((x.1 : Nat) : Int)))]) (0, 0) ⟨(Nat.zero_le _), (rfl)⟩ rfl ?_
                      intro x ih195 hI
                      obtain ⟨i, a⟩ := x
                      try dsimp only at ih195 hI ⊢
                      obtain ⟨hi0, ha⟩ := hI
                      refine q_iload hc 5 dX5_line_195 rfl ?_
                      refine q_iload_n hc 1 dX5_line_197 rfl ?_
                      refine q_ifz_eq hc 208 dX5_line_198 (by decide) (fun c140 => ?_) (fun c140 => ?_)
                      · cases c140
                      · refine q_aload_n hc 0 dX5_line_201 rfl ?_
                        refine q_get hc 66 1 i5 hq114 rfl (by decide) f45 rfl rfl dX5_line_202 ?_
                        refine q_goto hc 212 dX5_line_205 (by decide) ?_
                        refine q_icmpN_ge hc 278 dX5_line_212 (by decide) (by omega) (by omega) (fun c141 => ?_) (fun c141 => ?_)
                        · refine q_iload hc 4 dX5_line_278 rfl ?_
                          exact q_iretM (z := ((a : Nat) : Int)) hc (⟨congrArg (fun a : Nat => iZ (a : Int)) (show _ = lnV w h nc cap us pn pi true k.toNat 1 from by rw [ha, show i = w by omega]; rfl), hq114, (((fr0.trans fr7 (fun _ _ => by omega)).trans fr95 (fun _ _ => by omega)).trans fr108 (fun _ _ => by omega))⟩) hr hlk dX5_line_280
                        · refine q_iload_n hc 3 dX5_line_215 rfl ?_
                          refine q_if_le hc 278 dX5_line_216 (by decide) (by omega) (fun c142 => ?_) (fun c142 => ?_)
                          · exact absurd c142 (by omega)
                          · have hq9 := hxy i k.toNat (by omega) (by omega)
                            have hd9 := bN_le true
                            have hu9 := mA_bd hcap hc0 (show (i + w * k.toNat) + 64 * bN true < 128 by have := bN_le true; omega)
                            refine q_aload_n hc 0 dX5_line_219 rfl ?_
                            refine q_iload_n hc 1 dX5_line_220 rfl ?_
                            refine q_ifz_eq hc 229 dX5_line_221 (by decide) (fun c143 => ?_) (fun c143 => ?_)
                            · cases c143
                            · refine q_iload hc 5 dX5_line_224 rfl ?_
                              refine q_goto hc 230 dX5_line_226 (by decide) ?_
                              refine q_iload_n hc 1 dX5_line_230 rfl ?_
                              refine q_ifz_eq hc 238 dX5_line_231 (by decide) (fun c144 => ?_) (fun c144 => ?_)
                              · cases c144
                              · refine q_iload_n hc 2 dX5_line_234 rfl ?_
                                refine q_goto hc 240 dX5_line_235 (by decide) ?_
                                refine V.topi (show _ = ((k.toNat : Nat) : Int) from by omega) ?_
                                refine q_iload_n hc 1 dX5_line_240 rfl ?_
                                refine q_callPn (As := [.int (iZ ((i : Nat) : Int)), .int (iZ ((k.toNat : Nat) : Int)), .int (iZ (bZ true))]) (rest := []) hc (c_X5_numberOf l D K u105 ad w h 0 nc rc i k.toNat true hq114 ) (cwV 3 hc.1.2.2.2.2 gX5_line_X5_numberOf rfl rfl rfl (by decide +kernel) ⟨Nat.le_of_ble_eq_true rfl, Nat.le_of_ble_eq_true rfl⟩) 66 hq114 rfl rfl rfl (by decide) dX5_line_241 ⟨Nat.zero_le _, Nat.zero_le _⟩ ?_
                                refine q_istore hc [(6, .int (iZ ((i + w * k.toNat + 64 * bN true : Nat) : Int))), (0, .ref (ad 66)), (1, .int (iZ (bZ true))), (2, .int (iZ k)), (3, .int (iZ 1)), (4, .int (iZ ((a : Nat) : Int))), (5, .int (iZ ((i : Nat) : Int)))] dX5_line_244 (by decide) rfl ?_
                                refine q_iload hc 5 dX5_line_246 rfl ?_
                                refine q_iload_n hc 4 dX5_line_248 rfl ?_
                                refine q_iconstN hc 1 dX5_line_249 rfl ?_
                                refine q_icmp_ne hc 263 dX5_line_250 (by decide) (by omega) (by omega) (fun c147 => ?_) (fun c147 => ?_)
                                · exact absurd c147 (by omega)
                                · refine q_aload_n hc 1 dX5_line_253 rfl ?_
                                  refine q_get hc 66 3 i5 hq114 rfl (by decide) f7 rfl rfl dX5_line_254 ?_
                                  refine q_iload hc 0 dX5_line_257 rfl ?_
                                  refine q_ialdN (j := i + w * k.toNat + 64 * bN true) hc 67 hq110 rfl (by omega) (by omega) dX5_line_259 ?_
                                  refine q_goto hc 269 dX5_line_260 (by decide) ?_
                                  refine q_iaddN hc dX5_line_269 ?_
                                  refine q_istore hc [(4, .int (iZ ((a + ((mA n c0 cap) (i + w * k.toNat + 64 * bN true)) : Nat) : Int))), (6, .int (iZ ((i + w * k.toNat + 64 * bN true : Nat) : Int))), (0, .ref (ad 66)), (1, .int (iZ (bZ true))), (2, .int (iZ k)), (3, .int (iZ 1)), (5, .int (iZ ((i : Nat) : Int)))] dX5_line_270 (by decide) rfl ?_
                                  refine q_iincN (q := 6) hc 1 [(5, .int (iZ ((i + 1 : Nat) : Int))), (4, .int (iZ ((a + ((mA n c0 cap) (i + w * k.toNat + 64 * bN true)) : Nat) : Int))), (6, .int (iZ ((i + w * k.toNat + 64 * bN true : Nat) : Int))), (0, .ref (ad 66)), (1, .int (iZ (bZ true))), (2, .int (iZ k)), (3, .int (iZ 1))] dX5_line_272 rfl rfl (by decide) rfl ?_
                                  refine q_goto hc 195 dX5_line_275 (by decide) ?_
                                  refine V.sub [3, 4, 5, 6, 1, 0] rfl ?_
                                  exact ih195 (i + 1, a + ((mA n c0 cap) (i + w * k.toNat + 64 * bN true))) (by omega) ⟨(by omega), (by rw [sm_s, ha]; exact congrArg _ (mA_at true hq9 hn))⟩
                    · exact absurd c138 (by omega)
                · subst e2
                  refine q_iconstN hc 0 dX5_line_67 rfl ?_
                  refine q_istore hc [(4, .int (iZ ((0 : Nat) : Int))), (0, .ref (ad 66)), (1, .int (iZ (bZ true))), (2, .int (iZ k)), (3, .int (iZ 2))] dX5_line_68 (by decide) rfl ?_
                  refine q_iconstN hc 0 dX5_line_70 rfl ?_
                  refine q_istore hc [(5, .int (iZ ((0 : Nat) : Int))), (4, .int (iZ ((0 : Nat) : Int))), (0, .ref (ad 66)), (1, .int (iZ (bZ true))), (2, .int (iZ k)), (3, .int (iZ 2))] dX5_line_71 (by decide) rfl ?_
                  refine q_iload hc 0 dX5_line_73 rfl ?_
                  refine q_aload_n hc 2 dX5_line_75 rfl ?_
                  refine q_get hc 66 5 i5 hq114 rfl (by decide) f63 rfl rfl dX5_line_76 ?_
                  refine q_icmpN_ge hc 192 dX5_line_79 (by decide) (by omega) (by omega) (fun c148 => ?_) (fun c148 => ?_)
                  · refine q_iconstN hc 0 dX5_line_192 rfl ?_
                    refine q_istore hc [(5, .int (iZ ((0 : Nat) : Int))), (4, .int (iZ ((0 : Nat) : Int))), (0, .ref (ad 66)), (1, .int (iZ (bZ true))), (2, .int (iZ k)), (3, .int (iZ 2))] dX5_line_193 (by decide) rfl ?_
                    refine V.sub [2, 3, 4, 5, 1, 0] rfl ?_
                    refine V.loopP (α := Nat × Nat) (fun x => w - x.1) (fun x => (x.1 ≤ w) ∧ (x.2 = sm (fun z9 => us (lnB w k.toNat true z9)) x.1)) (fun x => [(0, .ref (ad 66)), (1, .int (iZ (bZ true))), (2, .int (iZ k)), (3, .int (iZ 2)), (4, .int (iZ ((x.2 : Nat) : Int))), (5, .int (iZ ((x.1 : Nat) : Int)))]) (0, 0) ⟨(Nat.zero_le _), (rfl)⟩ rfl ?_
                    intro x ih195 hI
                    obtain ⟨i, a⟩ := x
                    try dsimp only at ih195 hI ⊢
                    obtain ⟨hi0, ha⟩ := hI
                    refine q_iload hc 5 dX5_line_195 rfl ?_
                    refine q_iload_n hc 1 dX5_line_197 rfl ?_
                    refine q_ifz_eq hc 208 dX5_line_198 (by decide) (fun c150 => ?_) (fun c150 => ?_)
                    · cases c150
                    · refine q_aload_n hc 0 dX5_line_201 rfl ?_
                      refine q_get hc 66 1 i5 hq114 rfl (by decide) f45 rfl rfl dX5_line_202 ?_
                      refine q_goto hc 212 dX5_line_205 (by decide) ?_
                      refine q_icmpN_ge hc 278 dX5_line_212 (by decide) (by omega) (by omega) (fun c151 => ?_) (fun c151 => ?_)
                      · refine q_iload hc 4 dX5_line_278 rfl ?_
                        exact q_iretM (z := ((a : Nat) : Int)) hc (⟨congrArg (fun a : Nat => iZ (a : Int)) (show _ = lnV w h nc cap us pn pi true k.toNat 2 from by rw [ha, show i = w by omega]; rfl), hq114, (((fr0.trans fr7 (fun _ _ => by omega)).trans fr95 (fun _ _ => by omega)).trans fr108 (fun _ _ => by omega))⟩) hr hlk dX5_line_280
                      · refine q_iload_n hc 3 dX5_line_215 rfl ?_
                        refine q_if_le hc 278 dX5_line_216 (by decide) (by omega) (fun c152 => ?_) (fun c152 => ?_)
                        · exact absurd c152 (by omega)
                        · have hq9 := hxy i k.toNat (by omega) (by omega)
                          have hd9 := bN_le true
                          refine q_aload_n hc 0 dX5_line_219 rfl ?_
                          refine q_iload_n hc 1 dX5_line_220 rfl ?_
                          refine q_ifz_eq hc 229 dX5_line_221 (by decide) (fun c153 => ?_) (fun c153 => ?_)
                          · cases c153
                          · refine q_iload hc 5 dX5_line_224 rfl ?_
                            refine q_goto hc 230 dX5_line_226 (by decide) ?_
                            refine q_iload_n hc 1 dX5_line_230 rfl ?_
                            refine q_ifz_eq hc 238 dX5_line_231 (by decide) (fun c154 => ?_) (fun c154 => ?_)
                            · cases c154
                            · refine q_iload_n hc 2 dX5_line_234 rfl ?_
                              refine q_goto hc 240 dX5_line_235 (by decide) ?_
                              refine V.topi (show _ = ((k.toNat : Nat) : Int) from by omega) ?_
                              refine q_iload_n hc 1 dX5_line_240 rfl ?_
                              refine q_callPn (As := [.int (iZ ((i : Nat) : Int)), .int (iZ ((k.toNat : Nat) : Int)), .int (iZ (bZ true))]) (rest := []) hc (c_X5_numberOf l D K u105 ad w h 0 nc rc i k.toNat true hq114 ) (cwV 3 hc.1.2.2.2.2 gX5_line_X5_numberOf rfl rfl rfl (by decide +kernel) ⟨Nat.le_of_ble_eq_true rfl, Nat.le_of_ble_eq_true rfl⟩) 66 hq114 rfl rfl rfl (by decide) dX5_line_241 ⟨Nat.zero_le _, Nat.zero_le _⟩ ?_
                              refine q_istore hc [(6, .int (iZ ((i + w * k.toNat + 64 * bN true : Nat) : Int))), (0, .ref (ad 66)), (1, .int (iZ (bZ true))), (2, .int (iZ k)), (3, .int (iZ 2)), (4, .int (iZ ((a : Nat) : Int))), (5, .int (iZ ((i : Nat) : Int)))] dX5_line_244 (by decide) rfl ?_
                              refine q_iload hc 5 dX5_line_246 rfl ?_
                              refine q_iload_n hc 4 dX5_line_248 rfl ?_
                              refine q_iconstN hc 1 dX5_line_249 rfl ?_
                              refine q_icmp_ne hc 263 dX5_line_250 (by decide) (by omega) (by omega) (fun c157 => ?_) (fun c157 => ?_)
                              · refine q_aload_n hc 1 dX5_line_263 rfl ?_
                                refine q_iload hc 0 dX5_line_264 rfl ?_
                                refine q_callPn (As := [.int (iZ ((i + w * k.toNat + 64 * bN true : Nat) : Int))]) (rest := [.int (iZ ((a : Nat) : Int))]) hc (c_X5_use l D K u105 ad w h n 0 nc rc (i + w * k.toNat + 64 * bN true) _ ro hq114 hq113 (by have := bN_le true; omega) hnc hUC) (cwV 1 hc.1.2.2.2.2 gX5_line_X5_use rfl rfl rfl (by decide +kernel) ⟨Nat.le_of_ble_eq_true rfl, Nat.le_of_ble_eq_true rfl⟩) 66 hq114 rfl rfl rfl (by simp [Value.category]) dX5_line_266 ⟨Nat.zero_le _, Nat.zero_le _⟩ ?_
                                refine q_iaddN hc dX5_line_269 ?_
                                refine q_istore hc [(4, .int (iZ ((a + (mA n 0 us (i + w * k.toNat + 64 * bN true)) : Nat) : Int))), (6, .int (iZ ((i + w * k.toNat + 64 * bN true : Nat) : Int))), (0, .ref (ad 66)), (1, .int (iZ (bZ true))), (2, .int (iZ k)), (3, .int (iZ 2)), (5, .int (iZ ((i : Nat) : Int)))] dX5_line_270 (by decide) rfl ?_
                                refine q_iincN (q := 6) hc 1 [(5, .int (iZ ((i + 1 : Nat) : Int))), (4, .int (iZ ((a + (mA n 0 us (i + w * k.toNat + 64 * bN true)) : Nat) : Int))), (6, .int (iZ ((i + w * k.toNat + 64 * bN true : Nat) : Int))), (0, .ref (ad 66)), (1, .int (iZ (bZ true))), (2, .int (iZ k)), (3, .int (iZ 2))] dX5_line_272 rfl rfl (by decide) rfl ?_
                                refine q_goto hc 195 dX5_line_275 (by decide) ?_
                                refine V.sub [3, 4, 5, 6, 1, 0] rfl ?_
                                exact ih195 (i + 1, a + (mA n 0 us (i + w * k.toNat + 64 * bN true))) (by omega) ⟨(by omega), (by rw [sm_s, ha]; exact congrArg _ (mA_at true hq9 hn))⟩
                              · exact absurd c157 (by omega)
                  · refine q_iload_n hc 5 dX5_line_82 rfl ?_
                    refine q_if_ne hc 192 dX5_line_83 (by decide) (by omega) (fun c160 => ?_) (fun c160 => ?_)
                    · refine q_iconstN hc 0 dX5_line_192 rfl ?_
                      refine q_istore hc [(5, .int (iZ ((0 : Nat) : Int))), (4, .int (iZ ((0 : Nat) : Int))), (0, .ref (ad 66)), (1, .int (iZ (bZ true))), (2, .int (iZ k)), (3, .int (iZ 2))] dX5_line_193 (by decide) rfl ?_
                      refine V.sub [2, 3, 4, 5, 1, 0] rfl ?_
                      refine V.loopP (α := Nat × Nat) (fun x => w - x.1) (fun x => (x.1 ≤ w) ∧ (x.2 = sm (fun z9 => us (lnB w k.toNat true z9)) x.1)) (fun x => [(0, .ref (ad 66)), (1, .int (iZ (bZ true))), (2, .int (iZ k)), (3, .int (iZ 2)), (4, .int (iZ ((x.2 : Nat) : Int))), (5, .int (iZ ((x.1 : Nat) : Int)))]) (0, 0) ⟨(Nat.zero_le _), (rfl)⟩ rfl ?_
                      intro x ih195 hI
                      obtain ⟨i, a⟩ := x
                      try dsimp only at ih195 hI ⊢
                      obtain ⟨hi0, ha⟩ := hI
                      refine q_iload hc 5 dX5_line_195 rfl ?_
                      refine q_iload_n hc 1 dX5_line_197 rfl ?_
                      refine q_ifz_eq hc 208 dX5_line_198 (by decide) (fun c162 => ?_) (fun c162 => ?_)
                      · cases c162
                      · refine q_aload_n hc 0 dX5_line_201 rfl ?_
                        refine q_get hc 66 1 i5 hq114 rfl (by decide) f45 rfl rfl dX5_line_202 ?_
                        refine q_goto hc 212 dX5_line_205 (by decide) ?_
                        refine q_icmpN_ge hc 278 dX5_line_212 (by decide) (by omega) (by omega) (fun c163 => ?_) (fun c163 => ?_)
                        · refine q_iload hc 4 dX5_line_278 rfl ?_
                          exact q_iretM (z := ((a : Nat) : Int)) hc (⟨congrArg (fun a : Nat => iZ (a : Int)) (show _ = lnV w h nc cap us pn pi true k.toNat 2 from by rw [ha, show i = w by omega]; rfl), hq114, (((fr0.trans fr7 (fun _ _ => by omega)).trans fr95 (fun _ _ => by omega)).trans fr108 (fun _ _ => by omega))⟩) hr hlk dX5_line_280
                        · refine q_iload_n hc 3 dX5_line_215 rfl ?_
                          refine q_if_le hc 278 dX5_line_216 (by decide) (by omega) (fun c164 => ?_) (fun c164 => ?_)
                          · exact absurd c164 (by omega)
                          · have hq9 := hxy i k.toNat (by omega) (by omega)
                            have hd9 := bN_le true
                            refine q_aload_n hc 0 dX5_line_219 rfl ?_
                            refine q_iload_n hc 1 dX5_line_220 rfl ?_
                            refine q_ifz_eq hc 229 dX5_line_221 (by decide) (fun c165 => ?_) (fun c165 => ?_)
                            · cases c165
                            · refine q_iload hc 5 dX5_line_224 rfl ?_
                              refine q_goto hc 230 dX5_line_226 (by decide) ?_
                              refine q_iload_n hc 1 dX5_line_230 rfl ?_
                              refine q_ifz_eq hc 238 dX5_line_231 (by decide) (fun c166 => ?_) (fun c166 => ?_)
                              · cases c166
                              · refine q_iload_n hc 2 dX5_line_234 rfl ?_
                                refine q_goto hc 240 dX5_line_235 (by decide) ?_
                                refine V.topi (show _ = ((k.toNat : Nat) : Int) from by omega) ?_
                                refine q_iload_n hc 1 dX5_line_240 rfl ?_
                                refine q_callPn (As := [.int (iZ ((i : Nat) : Int)), .int (iZ ((k.toNat : Nat) : Int)), .int (iZ (bZ true))]) (rest := []) hc (c_X5_numberOf l D K u105 ad w h 0 nc rc i k.toNat true hq114 ) (cwV 3 hc.1.2.2.2.2 gX5_line_X5_numberOf rfl rfl rfl (by decide +kernel) ⟨Nat.le_of_ble_eq_true rfl, Nat.le_of_ble_eq_true rfl⟩) 66 hq114 rfl rfl rfl (by decide) dX5_line_241 ⟨Nat.zero_le _, Nat.zero_le _⟩ ?_
                                refine q_istore hc [(6, .int (iZ ((i + w * k.toNat + 64 * bN true : Nat) : Int))), (0, .ref (ad 66)), (1, .int (iZ (bZ true))), (2, .int (iZ k)), (3, .int (iZ 2)), (4, .int (iZ ((a : Nat) : Int))), (5, .int (iZ ((i : Nat) : Int)))] dX5_line_244 (by decide) rfl ?_
                                refine q_iload hc 5 dX5_line_246 rfl ?_
                                refine q_iload_n hc 4 dX5_line_248 rfl ?_
                                refine q_iconstN hc 1 dX5_line_249 rfl ?_
                                refine q_icmp_ne hc 263 dX5_line_250 (by decide) (by omega) (by omega) (fun c169 => ?_) (fun c169 => ?_)
                                · refine q_aload_n hc 1 dX5_line_263 rfl ?_
                                  refine q_iload hc 0 dX5_line_264 rfl ?_
                                  refine q_callPn (As := [.int (iZ ((i + w * k.toNat + 64 * bN true : Nat) : Int))]) (rest := [.int (iZ ((a : Nat) : Int))]) hc (c_X5_use l D K u105 ad w h n 0 nc rc (i + w * k.toNat + 64 * bN true) _ ro hq114 hq113 (by have := bN_le true; omega) hnc hUC) (cwV 1 hc.1.2.2.2.2 gX5_line_X5_use rfl rfl rfl (by decide +kernel) ⟨Nat.le_of_ble_eq_true rfl, Nat.le_of_ble_eq_true rfl⟩) 66 hq114 rfl rfl rfl (by simp [Value.category]) dX5_line_266 ⟨Nat.zero_le _, Nat.zero_le _⟩ ?_
                                  refine q_iaddN hc dX5_line_269 ?_
                                  refine q_istore hc [(4, .int (iZ ((a + (mA n 0 us (i + w * k.toNat + 64 * bN true)) : Nat) : Int))), (6, .int (iZ ((i + w * k.toNat + 64 * bN true : Nat) : Int))), (0, .ref (ad 66)), (1, .int (iZ (bZ true))), (2, .int (iZ k)), (3, .int (iZ 2)), (5, .int (iZ ((i : Nat) : Int)))] dX5_line_270 (by decide) rfl ?_
                                  refine q_iincN (q := 6) hc 1 [(5, .int (iZ ((i + 1 : Nat) : Int))), (4, .int (iZ ((a + (mA n 0 us (i + w * k.toNat + 64 * bN true)) : Nat) : Int))), (6, .int (iZ ((i + w * k.toNat + 64 * bN true : Nat) : Int))), (0, .ref (ad 66)), (1, .int (iZ (bZ true))), (2, .int (iZ k)), (3, .int (iZ 2))] dX5_line_272 rfl rfl (by decide) rfl ?_
                                  refine q_goto hc 195 dX5_line_275 (by decide) ?_
                                  refine V.sub [3, 4, 5, 6, 1, 0] rfl ?_
                                  exact ih195 (i + 1, a + (mA n 0 us (i + w * k.toNat + 64 * bN true))) (by omega) ⟨(by omega), (by rw [sm_s, ha]; exact congrArg _ (mA_at true hq9 hn))⟩
                                · exact absurd c169 (by omega)
                    · exact absurd c160 (by omega)
              · cases c115
            · exact absurd c104 (by omega)
      · exact absurd c91 (by omega)

set_option maxRecDepth 100000 in
set_option maxHeartbeats 4000000 in
theorem c_X5_line_e1 (l : Launch) (D : va_G) (K : Nat → ClassId) (ws : va_W) (ad : Nat → Nat) (w h th nc rc : Nat) (d : Bool) (k what : Int) (h66 : ws[66]? = some (ad 66, mO ad w h th nc rc)) (hk : -2147483648 ≤ k ∧ k < 2147483648) (hwhat : -2147483648 ≤ what ∧ what < 2147483648) (hw2 : 2 ≤ w ∧ w ≤ 8 ∧ 2 ≤ h ∧ h ≤ 8) (hbad : ¬ (0 ≤ k ∧ k < (lnK w h d : Int) - 1)) : MMi l yX5_line wsX5_line ({ frames := 1, cells := 0, slots := 0, locals := 22 }) D K ws [.ref (ad 66), .int (iZ (bZ d)), .int (iZ k), .int (iZ what)] (fun r u => (r = (iZ ((0 : Nat) : Int))) ∧ (u[66]? = some (ad 66, mO ad w h 1 nc rc)) ∧ (Fr (fun j => j = 66) ws u)) := by
  refine q_entMi RX5 [(0, .ref (ad 66)), (1, .int (iZ (bZ d))), (2, .int (iZ k)), (3, .int (iZ what))] (by decide) rfl rfl (Nat.le_of_ble_eq_true rfl) rfl ?_
  intro p e s m args below meth c hc hr hlk
  have i5 : ∀ w ∈ u_ws RX5 TX5 16, w ∈ wsX5_line := by decide +kernel
  have f52 := hc.1.2.2.2.2 (.fieldLink RX5 52 "GlobalRoutesModel" "thrown" "I") (by decide +kernel)
  have f45 := hc.1.2.2.2.2 (.fieldLink RX5 45 "GlobalRoutesModel" "width" "I") (by decide +kernel)
  have f49 := hc.1.2.2.2.2 (.fieldLink RX5 49 "GlobalRoutesModel" "height" "I") (by decide +kernel)
  have fr0 : Fr (fun j => j = 66) ws ws := Fr.rfl
  refine q_aload_n hc 0 dX5_line_0 rfl ?_
  refine q_iconstN hc 0 dX5_line_1 rfl ?_
  refine q_put (ty := .int) hc 66 0 i5 tyX5 tyX5_ok nmX5 h66 rfl (by decide) f52 rfl rfl (by decide +kernel) rfl rfl (Nat.le_of_ble_eq_true rfl) rfl dX5_line_2 (fun u1 hn' hf' => ?_)
  have hq2 : u1[66]? = some (ad 66, mO ad w h 0 nc rc) := hn'
  have fr3 := Fr.one hf'
  refine q_aload_n hc 0 dX5_line_5 rfl ?_
  refine q_iload_n hc 2 dX5_line_6 rfl ?_
  refine q_if_lt hc 31 dX5_line_7 (by decide) (by omega) (fun c4 => ?_) (fun c4 => ?_)
  · refine q_iconstN hc 1 dX5_line_31 rfl ?_
    refine q_goto hc 36 dX5_line_32 (by decide) ?_
    refine q_iconstN hc 1 dX5_line_36 rfl ?_
    refine q_callMi (As := [.int (iZ (bZ true)), .int (iZ ((1 : Nat) : Int))]) (rest := []) hc (c_X5_fails l D K u1 ad w h nc rc true 1 hq2 (by omega)) (cwV 2 hc.1.2.2.2.2 gX5_line_X5_fails rfl rfl rfl (by decide +kernel) ⟨Nat.le_of_ble_eq_true rfl, Nat.le_of_ble_eq_true rfl⟩) 66 hq2 rfl rfl rfl (by decide) dX5_line_37 ⟨Nat.zero_le _, Nat.zero_le _⟩ (fun r6 u5 hp' => ?_)
    obtain ⟨hr9, hq7, fr8⟩ := hp'
    subst hr9
    have hq10 : u5[66]? = some (ad 66, mO ad w h 1 nc rc) := hq7
    refine q_ifz_ne hc 65 dX5_line_40 (by decide) (fun c11 => ?_) (fun c11 => ?_)
    · refine q_iconstN hc 0 dX5_line_65 rfl ?_
      exact q_iretM (z := ((0 : Nat) : Int)) hc (⟨rfl, hq10, ((fr0.trans fr3 (fun _ _ => by omega)).trans fr8 (fun _ _ => by omega))⟩) hr hlk dX5_line_66
    · cases c11
  · refine q_iload_n hc 2 dX5_line_10 rfl ?_
    refine q_iload_n hc 1 dX5_line_11 rfl ?_
    refine q_ifz_eq hc 22 dX5_line_12 (by decide) (fun c12 => ?_) (fun c12 => ?_)
    · subst c12
      have hk9 : ¬ (0 ≤ k ∧ k < (w : Int) - 1) := hbad
      refine q_aload_n hc 0 dX5_line_22 rfl ?_
      refine q_get hc 66 1 i5 hq2 rfl (by decide) f45 rfl rfl dX5_line_23 ?_
      refine q_iconstN hc 1 dX5_line_26 rfl ?_
      refine q_isub hc dX5_line_27 ?_
      refine q_icmp_lt hc 35 dX5_line_28 (by decide) (by omega) (by omega) (fun c13 => ?_) (fun c13 => ?_)
      · exact absurd c13 (by omega)
      · refine q_iconstN hc 1 dX5_line_31 rfl ?_
        refine q_goto hc 36 dX5_line_32 (by decide) ?_
        refine q_iconstN hc 1 dX5_line_36 rfl ?_
        refine q_callMi (As := [.int (iZ (bZ true)), .int (iZ ((1 : Nat) : Int))]) (rest := []) hc (c_X5_fails l D K u1 ad w h nc rc true 1 hq2 (by omega)) (cwV 2 hc.1.2.2.2.2 gX5_line_X5_fails rfl rfl rfl (by decide +kernel) ⟨Nat.le_of_ble_eq_true rfl, Nat.le_of_ble_eq_true rfl⟩) 66 hq2 rfl rfl rfl (by decide) dX5_line_37 ⟨Nat.zero_le _, Nat.zero_le _⟩ (fun r15 u14 hp' => ?_)
        obtain ⟨hr18, hq16, fr17⟩ := hp'
        subst hr18
        have hq19 : u14[66]? = some (ad 66, mO ad w h 1 nc rc) := hq16
        refine q_ifz_ne hc 65 dX5_line_40 (by decide) (fun c20 => ?_) (fun c20 => ?_)
        · refine q_iconstN hc 0 dX5_line_65 rfl ?_
          exact q_iretM (z := ((0 : Nat) : Int)) hc (⟨rfl, hq19, ((fr0.trans fr3 (fun _ _ => by omega)).trans fr17 (fun _ _ => by omega))⟩) hr hlk dX5_line_66
        · cases c20
    · subst c12
      have hk9 : ¬ (0 ≤ k ∧ k < (h : Int) - 1) := hbad
      refine q_aload_n hc 0 dX5_line_15 rfl ?_
      refine q_get hc 66 2 i5 hq2 rfl (by decide) f49 rfl rfl dX5_line_16 ?_
      refine q_goto hc 26 dX5_line_19 (by decide) ?_
      refine q_iconstN hc 1 dX5_line_26 rfl ?_
      refine q_isub hc dX5_line_27 ?_
      refine q_icmp_lt hc 35 dX5_line_28 (by decide) (by omega) (by omega) (fun c21 => ?_) (fun c21 => ?_)
      · exact absurd c21 (by omega)
      · refine q_iconstN hc 1 dX5_line_31 rfl ?_
        refine q_goto hc 36 dX5_line_32 (by decide) ?_
        refine q_iconstN hc 1 dX5_line_36 rfl ?_
        refine q_callMi (As := [.int (iZ (bZ true)), .int (iZ ((1 : Nat) : Int))]) (rest := []) hc (c_X5_fails l D K u1 ad w h nc rc true 1 hq2 (by omega)) (cwV 2 hc.1.2.2.2.2 gX5_line_X5_fails rfl rfl rfl (by decide +kernel) ⟨Nat.le_of_ble_eq_true rfl, Nat.le_of_ble_eq_true rfl⟩) 66 hq2 rfl rfl rfl (by decide) dX5_line_37 ⟨Nat.zero_le _, Nat.zero_le _⟩ (fun r23 u22 hp' => ?_)
        obtain ⟨hr26, hq24, fr25⟩ := hp'
        subst hr26
        have hq27 : u22[66]? = some (ad 66, mO ad w h 1 nc rc) := hq24
        refine q_ifz_ne hc 65 dX5_line_40 (by decide) (fun c28 => ?_) (fun c28 => ?_)
        · refine q_iconstN hc 0 dX5_line_65 rfl ?_
          exact q_iretM (z := ((0 : Nat) : Int)) hc (⟨rfl, hq27, ((fr0.trans fr3 (fun _ _ => by omega)).trans fr25 (fun _ _ => by omega))⟩) hr hlk dX5_line_66
        · cases c28

set_option maxRecDepth 100000 in
set_option maxHeartbeats 4000000 in
theorem c_X5_line_e2 (l : Launch) (D : va_G) (K : Nat → ClassId) (ws : va_W) (ad : Nat → Nat) (w h th nc rc : Nat) (d : Bool) (k what : Int) (h66 : ws[66]? = some (ad 66, mO ad w h th nc rc)) (hk : -2147483648 ≤ k ∧ k < 2147483648) (hwhat : -2147483648 ≤ what ∧ what < 2147483648) (hw2 : 2 ≤ w ∧ w ≤ 8 ∧ 2 ≤ h ∧ h ≤ 8) (hkk : (0 ≤ k ∧ k < (lnK w h d : Int) - 1)) (hbad : ¬ (0 ≤ what ∧ what < 3)) : MMi l yX5_line wsX5_line ({ frames := 1, cells := 0, slots := 0, locals := 22 }) D K ws [.ref (ad 66), .int (iZ (bZ d)), .int (iZ k), .int (iZ what)] (fun r u => (r = (iZ ((0 : Nat) : Int))) ∧ (u[66]? = some (ad 66, mO ad w h 2 nc rc)) ∧ (Fr (fun j => j = 66) ws u)) := by
  refine q_entMi RX5 [(0, .ref (ad 66)), (1, .int (iZ (bZ d))), (2, .int (iZ k)), (3, .int (iZ what))] (by decide) rfl rfl (Nat.le_of_ble_eq_true rfl) rfl ?_
  intro p e s m args below meth c hc hr hlk
  have i5 : ∀ w ∈ u_ws RX5 TX5 16, w ∈ wsX5_line := by decide +kernel
  have f52 := hc.1.2.2.2.2 (.fieldLink RX5 52 "GlobalRoutesModel" "thrown" "I") (by decide +kernel)
  have f45 := hc.1.2.2.2.2 (.fieldLink RX5 45 "GlobalRoutesModel" "width" "I") (by decide +kernel)
  have f49 := hc.1.2.2.2.2 (.fieldLink RX5 49 "GlobalRoutesModel" "height" "I") (by decide +kernel)
  have fr0 : Fr (fun j => j = 66) ws ws := Fr.rfl
  refine q_aload_n hc 0 dX5_line_0 rfl ?_
  refine q_iconstN hc 0 dX5_line_1 rfl ?_
  refine q_put (ty := .int) hc 66 0 i5 tyX5 tyX5_ok nmX5 h66 rfl (by decide) f52 rfl rfl (by decide +kernel) rfl rfl (Nat.le_of_ble_eq_true rfl) rfl dX5_line_2 (fun u1 hn' hf' => ?_)
  have hq2 : u1[66]? = some (ad 66, mO ad w h 0 nc rc) := hn'
  have fr3 := Fr.one hf'
  refine q_aload_n hc 0 dX5_line_5 rfl ?_
  refine q_iload_n hc 2 dX5_line_6 rfl ?_
  refine q_if_lt hc 31 dX5_line_7 (by decide) (by omega) (fun c4 => ?_) (fun c4 => ?_)
  · exact absurd hkk.1 (by omega)
  · refine q_iload_n hc 2 dX5_line_10 rfl ?_
    refine q_iload_n hc 1 dX5_line_11 rfl ?_
    refine q_ifz_eq hc 22 dX5_line_12 (by decide) (fun c5 => ?_) (fun c5 => ?_)
    · subst c5
      have hk9 : 0 ≤ k ∧ k < (w : Int) - 1 := hkk
      refine q_aload_n hc 0 dX5_line_22 rfl ?_
      refine q_get hc 66 1 i5 hq2 rfl (by decide) f45 rfl rfl dX5_line_23 ?_
      refine q_iconstN hc 1 dX5_line_26 rfl ?_
      refine q_isub hc dX5_line_27 ?_
      refine q_icmp_lt hc 35 dX5_line_28 (by decide) (by omega) (by omega) (fun c6 => ?_) (fun c6 => ?_)
      · refine q_iconstN hc 0 dX5_line_35 rfl ?_
        refine q_iconstN hc 1 dX5_line_36 rfl ?_
        refine q_callMi (As := [.int (iZ (bZ false)), .int (iZ ((1 : Nat) : Int))]) (rest := []) hc (c_X5_fails l D K u1 ad w h nc rc false 1 hq2 (by omega)) (cwV 2 hc.1.2.2.2.2 gX5_line_X5_fails rfl rfl rfl (by decide +kernel) ⟨Nat.le_of_ble_eq_true rfl, Nat.le_of_ble_eq_true rfl⟩) 66 hq2 rfl rfl rfl (by decide) dX5_line_37 ⟨Nat.zero_le _, Nat.zero_le _⟩ (fun r8 u7 hp' => ?_)
        obtain ⟨hr11, hq9, fr10⟩ := hp'
        subst hr11
        have hq12 : u7[66]? = some (ad 66, mO ad w h 0 nc rc) := hq9
        refine q_ifz_ne hc 65 dX5_line_40 (by decide) (fun c13 => ?_) (fun c13 => ?_)
        · cases c13
        · refine q_aload_n hc 0 dX5_line_43 rfl ?_
          refine q_iload_n hc 3 dX5_line_44 rfl ?_
          refine q_if_lt hc 53 dX5_line_45 (by decide) (by omega) (fun c14 => ?_) (fun c14 => ?_)
          · refine q_iconstN hc 1 dX5_line_53 rfl ?_
            refine q_goto hc 58 dX5_line_54 (by decide) ?_
            refine q_iconstN hc 2 dX5_line_58 rfl ?_
            refine q_callMi (As := [.int (iZ (bZ true)), .int (iZ ((2 : Nat) : Int))]) (rest := []) hc (c_X5_fails l D K u7 ad w h nc rc true 2 hq12 (by omega)) (cwV 2 hc.1.2.2.2.2 gX5_line_X5_fails rfl rfl rfl (by decide +kernel) ⟨Nat.le_of_ble_eq_true rfl, Nat.le_of_ble_eq_true rfl⟩) 66 hq12 rfl rfl rfl (by decide) dX5_line_59 ⟨Nat.zero_le _, Nat.zero_le _⟩ (fun r16 u15 hp' => ?_)
            obtain ⟨hr19, hq17, fr18⟩ := hp'
            subst hr19
            have hq20 : u15[66]? = some (ad 66, mO ad w h 2 nc rc) := hq17
            refine q_ifz_eq hc 67 dX5_line_62 (by decide) (fun c21 => ?_) (fun c21 => ?_)
            · cases c21
            · refine q_iconstN hc 0 dX5_line_65 rfl ?_
              exact q_iretM (z := ((0 : Nat) : Int)) hc (⟨rfl, hq20, (((fr0.trans fr3 (fun _ _ => by omega)).trans fr10 (fun _ _ => by omega)).trans fr18 (fun _ _ => by omega))⟩) hr hlk dX5_line_66
          · refine q_iload_n hc 3 dX5_line_48 rfl ?_
            refine q_iconstN hc 2 dX5_line_49 rfl ?_
            refine q_icmp_le hc 57 dX5_line_50 (by decide) (by omega) (by omega) (fun c22 => ?_) (fun c22 => ?_)
            · exact absurd c22 (by omega)
            · refine q_iconstN hc 1 dX5_line_53 rfl ?_
              refine q_goto hc 58 dX5_line_54 (by decide) ?_
              refine q_iconstN hc 2 dX5_line_58 rfl ?_
              refine q_callMi (As := [.int (iZ (bZ true)), .int (iZ ((2 : Nat) : Int))]) (rest := []) hc (c_X5_fails l D K u7 ad w h nc rc true 2 hq12 (by omega)) (cwV 2 hc.1.2.2.2.2 gX5_line_X5_fails rfl rfl rfl (by decide +kernel) ⟨Nat.le_of_ble_eq_true rfl, Nat.le_of_ble_eq_true rfl⟩) 66 hq12 rfl rfl rfl (by decide) dX5_line_59 ⟨Nat.zero_le _, Nat.zero_le _⟩ (fun r24 u23 hp' => ?_)
              obtain ⟨hr27, hq25, fr26⟩ := hp'
              subst hr27
              have hq28 : u23[66]? = some (ad 66, mO ad w h 2 nc rc) := hq25
              refine q_ifz_eq hc 67 dX5_line_62 (by decide) (fun c29 => ?_) (fun c29 => ?_)
              · cases c29
              · refine q_iconstN hc 0 dX5_line_65 rfl ?_
                exact q_iretM (z := ((0 : Nat) : Int)) hc (⟨rfl, hq28, (((fr0.trans fr3 (fun _ _ => by omega)).trans fr10 (fun _ _ => by omega)).trans fr26 (fun _ _ => by omega))⟩) hr hlk dX5_line_66
      · exact absurd c6 (by omega)
    · subst c5
      have hk9 : 0 ≤ k ∧ k < (h : Int) - 1 := hkk
      refine q_aload_n hc 0 dX5_line_15 rfl ?_
      refine q_get hc 66 2 i5 hq2 rfl (by decide) f49 rfl rfl dX5_line_16 ?_
      refine q_goto hc 26 dX5_line_19 (by decide) ?_
      refine q_iconstN hc 1 dX5_line_26 rfl ?_
      refine q_isub hc dX5_line_27 ?_
      refine q_icmp_lt hc 35 dX5_line_28 (by decide) (by omega) (by omega) (fun c30 => ?_) (fun c30 => ?_)
      · refine q_iconstN hc 0 dX5_line_35 rfl ?_
        refine q_iconstN hc 1 dX5_line_36 rfl ?_
        refine q_callMi (As := [.int (iZ (bZ false)), .int (iZ ((1 : Nat) : Int))]) (rest := []) hc (c_X5_fails l D K u1 ad w h nc rc false 1 hq2 (by omega)) (cwV 2 hc.1.2.2.2.2 gX5_line_X5_fails rfl rfl rfl (by decide +kernel) ⟨Nat.le_of_ble_eq_true rfl, Nat.le_of_ble_eq_true rfl⟩) 66 hq2 rfl rfl rfl (by decide) dX5_line_37 ⟨Nat.zero_le _, Nat.zero_le _⟩ (fun r32 u31 hp' => ?_)
        obtain ⟨hr35, hq33, fr34⟩ := hp'
        subst hr35
        have hq36 : u31[66]? = some (ad 66, mO ad w h 0 nc rc) := hq33
        refine q_ifz_ne hc 65 dX5_line_40 (by decide) (fun c37 => ?_) (fun c37 => ?_)
        · cases c37
        · refine q_aload_n hc 0 dX5_line_43 rfl ?_
          refine q_iload_n hc 3 dX5_line_44 rfl ?_
          refine q_if_lt hc 53 dX5_line_45 (by decide) (by omega) (fun c38 => ?_) (fun c38 => ?_)
          · refine q_iconstN hc 1 dX5_line_53 rfl ?_
            refine q_goto hc 58 dX5_line_54 (by decide) ?_
            refine q_iconstN hc 2 dX5_line_58 rfl ?_
            refine q_callMi (As := [.int (iZ (bZ true)), .int (iZ ((2 : Nat) : Int))]) (rest := []) hc (c_X5_fails l D K u31 ad w h nc rc true 2 hq36 (by omega)) (cwV 2 hc.1.2.2.2.2 gX5_line_X5_fails rfl rfl rfl (by decide +kernel) ⟨Nat.le_of_ble_eq_true rfl, Nat.le_of_ble_eq_true rfl⟩) 66 hq36 rfl rfl rfl (by decide) dX5_line_59 ⟨Nat.zero_le _, Nat.zero_le _⟩ (fun r40 u39 hp' => ?_)
            obtain ⟨hr43, hq41, fr42⟩ := hp'
            subst hr43
            have hq44 : u39[66]? = some (ad 66, mO ad w h 2 nc rc) := hq41
            refine q_ifz_eq hc 67 dX5_line_62 (by decide) (fun c45 => ?_) (fun c45 => ?_)
            · cases c45
            · refine q_iconstN hc 0 dX5_line_65 rfl ?_
              exact q_iretM (z := ((0 : Nat) : Int)) hc (⟨rfl, hq44, (((fr0.trans fr3 (fun _ _ => by omega)).trans fr34 (fun _ _ => by omega)).trans fr42 (fun _ _ => by omega))⟩) hr hlk dX5_line_66
          · refine q_iload_n hc 3 dX5_line_48 rfl ?_
            refine q_iconstN hc 2 dX5_line_49 rfl ?_
            refine q_icmp_le hc 57 dX5_line_50 (by decide) (by omega) (by omega) (fun c46 => ?_) (fun c46 => ?_)
            · exact absurd c46 (by omega)
            · refine q_iconstN hc 1 dX5_line_53 rfl ?_
              refine q_goto hc 58 dX5_line_54 (by decide) ?_
              refine q_iconstN hc 2 dX5_line_58 rfl ?_
              refine q_callMi (As := [.int (iZ (bZ true)), .int (iZ ((2 : Nat) : Int))]) (rest := []) hc (c_X5_fails l D K u31 ad w h nc rc true 2 hq36 (by omega)) (cwV 2 hc.1.2.2.2.2 gX5_line_X5_fails rfl rfl rfl (by decide +kernel) ⟨Nat.le_of_ble_eq_true rfl, Nat.le_of_ble_eq_true rfl⟩) 66 hq36 rfl rfl rfl (by decide) dX5_line_59 ⟨Nat.zero_le _, Nat.zero_le _⟩ (fun r48 u47 hp' => ?_)
              obtain ⟨hr51, hq49, fr50⟩ := hp'
              subst hr51
              have hq52 : u47[66]? = some (ad 66, mO ad w h 2 nc rc) := hq49
              refine q_ifz_eq hc 67 dX5_line_62 (by decide) (fun c53 => ?_) (fun c53 => ?_)
              · cases c53
              · refine q_iconstN hc 0 dX5_line_65 rfl ?_
                exact q_iretM (z := ((0 : Nat) : Int)) hc (⟨rfl, hq52, (((fr0.trans fr3 (fun _ _ => by omega)).trans fr34 (fun _ _ => by omega)).trans fr50 (fun _ _ => by omega))⟩) hr hlk dX5_line_66
      · exact absurd c30 (by omega)
