
set_option maxRecDepth 100000 in
set_option maxHeartbeats 4000000 in
theorem c_X5_findDistances (l : Launch) (D : va_G) (K : Nat → ClassId) (ws : va_W) (ad : Nat → Nat) (w h n th nc rc : Nat) (t0 : Nat) (tr : Nat → Bool) (di cm co : Nat → Nat) (h66 : ws[66]? = some (ad 66, mO ad w h th nc rc)) (m73 : ws[73]? = some (ad 73, zA K 64 tr)) (m74 : ws[74]? = some (ad 74, jN K 64 di)) (m75 : ws[75]? = some (ad 75, jN K 128 cm)) (hW : WH w h n) (hC1 : C1 n co) (hcm : ∀ b, b < 128 → b % 64 < n → cm b = co (ub b)) (ht0 : t0 < n) (htr : tr t0 = true) (hto : ∀ k, n ≤ k → tr k = false) : MMv l yX5_findDistances wsX5_findDistances ({ frames := 3, cells := 0, slots := 0, locals := 67 }) D K ws [.ref (ad 66)] (fun u => ∃ (dv : Nat → Nat), (DS (nbW w h) (btW w h) n co tr dv) ∧ (∀ k, n ≤ k → k < 64 → dv k = 1000000000) ∧ (∀ k, dv k ≤ 1000000000) ∧ (u[74]? = some (ad 74, jN K 64 dv)) ∧ (Fr (fun j => j = 74) ws u)) := by
  refine q_entMv RX5 [(0, .ref (ad 66))] (by decide) rfl rfl (Nat.le_of_ble_eq_true rfl) rfl ?_
  intro p e s m args below meth c hc hr hlk
  have i5 : ∀ w ∈ u_ws RX5 TX5 16, w ∈ wsX5_findDistances := by decide +kernel
  have f36 := hc.1.2.2.2.2 (.fieldLink RX5 36 "GlobalRoutesModel" "costs" "[J") (by decide +kernel)
  have f32 := hc.1.2.2.2.2 (.fieldLink RX5 32 "GlobalRoutesModel" "distances" "[J") (by decide +kernel)
  have f29 := hc.1.2.2.2.2 (.fieldLink RX5 29 "GlobalRoutesModel" "inTree" "[Z") (by decide +kernel)
  have k87 : (Jvm.Cond.constantLong RX5 87 (jZ 1000000000)).before args s = true := hc.1.2.2.2.2 (.constantLong RX5 87 (1000000000)) (by decide +kernel)
  have fr0 : Fr (fun j => j = 74) ws ws := Fr.rfl
  have hn := hW.le; have hw2 := hW.1
  refine q_iconstN hc 0 dX5_findDistances_0 rfl ?_
  refine q_istore_n hc [(1, .int (iZ ((0 : Nat) : Int))), (0, .ref (ad 66))] dX5_findDistances_1 rfl (by decide) rfl ?_
  refine V.sub [1, 0] rfl ?_
  refine V.loop (α := Nat × (Nat → Nat)) (fun x => 64 - x.1) (fun x u => (x.1 ≤ 64) ∧ (∀ k, x.2 k = if k < x.1 then dI tr k else di k) ∧ (u[74]? = some (ad 74, jN K 64 x.2)) ∧ (Fr (fun j => j = 74) ws u)) (fun x => [(0, .ref (ad 66)), (1, .int (iZ ((x.1 : Nat) : Int)))]) (0, di) ⟨(Nat.zero_le _), (fun k => by simp), (m74), (Fr.rfl)⟩ rfl ?_
  intro x ih2 u1 hI
  obtain ⟨i, f⟩ := x
  try dsimp only at ih2 hI ⊢
  obtain ⟨hi0, hf, hq2, fr3⟩ := hI
  have hq4 := (fr3.at 66 (by omega)).trans h66
  have hq5 := (fr3.at 73 (by omega)).trans m73
  have hq6 := (fr3.at 75 (by omega)).trans m75
  refine q_iload_n hc 1 dX5_findDistances_2 rfl ?_
  refine q_bipushN hc 64 dX5_findDistances_3 (by decide +kernel) ?_
  refine q_icmpN_ge hc 36 dX5_findDistances_5 (by decide) (by omega) (by omega) (fun c7 => ?_) (fun c7 => ?_)
  · refine q_iconstN hc 1 dX5_findDistances_36 rfl ?_
    refine q_istore_n hc [(1, .int (iZ ((1 : Nat) : Int))), (0, .ref (ad 66))] dX5_findDistances_37 rfl (by decide) rfl ?_
    obtain rfl : i = 64 := by omega
    refine q_norm_jN (g := dI tr) hc 74 hq2 (fun k hk => by rw [hf k, if_pos hk]) (fun u8 hn' hf' => ?_)
    have hq9 : u8[74]? = some (ad 74, jN K 64 (dI tr)) := hn'
    have hq10 := (hf' 66 (by omega)).trans hq4
    have hq11 := (hf' 73 (by omega)).trans hq5
    have hq12 := (hf' 75 (by omega)).trans hq6
    have fr13 := Fr.one hf'
    refine V.sub [1, 0] rfl ?_
    refine V.loop (α := (Nat → Nat) × Bool) (fun x => 2 * sm x.1 64 + bN x.2) (fun x u => (UpR (nbW w h) (btW w h) n co tr x.1) ∧ (x.2 = false → ∀ b, b < 128 → isW w h b = true → x.1 (b % 64) ≤ x.1 (bey w b) + co (ub b) ∧ x.1 (bey w b) ≤ x.1 (b % 64) + co (ub b)) ∧ (u[74]? = some (ad 74, jN K 64 x.1)) ∧ (Fr (fun j => j = 74) u8 u)) (fun x => [(0, .ref (ad 66)), (1, .int (iZ (bZ x.2)))]) (dI tr, true) ⟨(⟨dI_Z0, dI_Uw, fun k hk _ => if_neg (by rw [hto k hk]; decide), dI_bd tr⟩), (fun h9 => by cases h9), (hq9), (Fr.rfl)⟩ rfl ?_
    intro x ih38 u14 hI
    obtain ⟨dv, mo⟩ := x
    try dsimp only at ih38 hI ⊢
    obtain ⟨hU, hM, hq15, fr16⟩ := hI
    have hq17 := (fr16.at 66 (by omega)).trans hq10
    have hq18 := (fr16.at 73 (by omega)).trans hq11
    have hq19 := (fr16.at 75 (by omega)).trans hq12
    refine q_iload_n hc 1 dX5_findDistances_38 rfl ?_
    refine q_ifz_eq hc 169 dX5_findDistances_39 (by decide) (fun c20 => ?_) (fun c20 => ?_)
    · exact q_vretM hc (⟨dv, hU.DS hW hC1 ht0 htr (hM c20), hU.2.2.1, hU.2.2.2, hq15, (((fr0.trans fr3 (fun _ _ => by omega)).trans fr13 (fun _ _ => by omega)).trans fr16 (fun _ _ => by omega))⟩) hr hlk dX5_findDistances_169
    · have hb1 : bN mo = 1 := by rw [c20]; rfl
      refine q_iconstN hc 0 dX5_findDistances_42 rfl ?_
      refine q_istore_n hc [(1, .int (iZ ((0 : Nat) : Int))), (0, .ref (ad 66))] dX5_findDistances_43 rfl (by decide) rfl ?_
      refine q_iconstN hc 0 dX5_findDistances_44 rfl ?_
      refine q_istore_n hc [(2, .int (iZ ((0 : Nat) : Int))), (1, .int (iZ ((0 : Nat) : Int))), (0, .ref (ad 66))] dX5_findDistances_45 rfl (by decide) rfl ?_
      refine V.sub [2, 1, 0] rfl ?_
      refine V.loop (α := Nat × (Nat → Nat) × Bool) (fun x => 128 - x.1) (fun x u => (x.1 ≤ 128) ∧ (UpR (nbW w h) (btW w h) n co tr x.2.1) ∧ (sm x.2.1 64 + bN x.2.2 ≤ sm dv 64) ∧ (x.2.2 = false → ∀ b, b < x.1 → isW w h b = true → x.2.1 (b % 64) ≤ x.2.1 (bey w b) + co (ub b) ∧ x.2.1 (bey w b) ≤ x.2.1 (b % 64) + co (ub b)) ∧ (u[74]? = some (ad 74, jN K 64 x.2.1)) ∧ (Fr (fun j => j = 74) u14 u)) (fun x => [(0, .ref (ad 66)), (1, .int (iZ (bZ x.2.2))), (2, .int (iZ ((x.1 : Nat) : Int)))]) (0, dv, false) ⟨(Nat.zero_le _), (hU), (Nat.le_refl _), (fun _ b hb => by omega), (hq15), (Fr.rfl)⟩ rfl ?_
      intro x ih46 u21 hI
      obtain ⟨i, d2, m2⟩ := x
      try dsimp only at ih46 hI ⊢
      obtain ⟨hi1, hU2, hS2, hM2, hq22, fr23⟩ := hI
      have hq24 := (fr23.at 66 (by omega)).trans hq17
      have hq25 := (fr23.at 73 (by omega)).trans hq18
      have hq26 := (fr23.at 75 (by omega)).trans hq19
      refine q_iload_n hc 2 dX5_findDistances_46 rfl ?_
      refine q_sipushN hc 128 dX5_findDistances_47 (by decide +kernel) ?_
      refine q_icmpN_ge hc 166 dX5_findDistances_50 (by decide) (by omega) (by omega) (fun c27 => ?_) (fun c27 => ?_)
      · refine q_goto hc 38 dX5_findDistances_166 (by decide) ?_
        refine V.sub [0, 1] rfl ?_
        exact ih38 (d2, m2) _ (show 2 * sm d2 64 + bN m2 < 2 * sm dv 64 + bN mo by omega) ⟨(hU2), (fun h9 b hb hi9 => hM2 h9 b (by omega) hi9), (hq22), ((fr16.trans fr23 (fun _ _ => by omega)))⟩
      · refine q_aload_n hc 0 dX5_findDistances_53 rfl ?_
        refine q_iload_n hc 2 dX5_findDistances_54 rfl ?_
        refine q_callPz (As := [.int (iZ ((i : Nat) : Int))]) (rest := []) hc (c_X5_is l D K u21 ad w h th nc rc i hq24 hw2 (by omega)) (cwV 1 hc.1.2.2.2.2 gX5_findDistances_X5_is rfl rfl rfl (by decide +kernel) ⟨Nat.le_of_ble_eq_true rfl, Nat.le_of_ble_eq_true rfl⟩) 66 hq24 rfl rfl rfl (by decide) dX5_findDistances_55 ⟨Nat.zero_le _, Nat.zero_le _⟩ ?_
        refine q_ifz_ne hc 64 dX5_findDistances_58 (by decide) (fun c30 => ?_) (fun c30 => ?_)
        · have g1 := isW_Ed hW (show i < 128 by omega) c30; have g2 := hC1 (ub i) (ub_lt (by omega) g1.1); have g3 := hU2.2.2.2 (i % 64); have g4 := hU2.2.2.2 (bey w i)
          have g5 : ¬ bey w i = i % 64 := by unfold bey; split <;> omega
          refine q_iload_n hc 2 dX5_findDistances_64 rfl ?_
          refine q_bipushN hc 64 dX5_findDistances_65 (by decide +kernel) ?_
          refine q_iremN hc dX5_findDistances_67 (by omega) (by omega) ?_
          refine q_istore_n hc [(3, .int (iZ ((i % 64 : Nat) : Int))), (0, .ref (ad 66)), (1, .int (iZ (bZ m2))), (2, .int (iZ ((i : Nat) : Int)))] dX5_findDistances_68 rfl (by decide) rfl ?_
          refine q_aload_n hc 1 dX5_findDistances_69 rfl ?_
          refine q_iload_n hc 3 dX5_findDistances_70 rfl ?_
          refine q_callPn (As := [.int (iZ ((i : Nat) : Int))]) (rest := []) hc (c_X5_beyond l D K u21 ad w h th nc rc i hq24 hw2 (by omega)) (cwV 1 hc.1.2.2.2.2 gX5_findDistances_X5_beyond rfl rfl rfl (by decide +kernel) ⟨Nat.le_of_ble_eq_true rfl, Nat.le_of_ble_eq_true rfl⟩) 66 hq24 rfl rfl rfl (by decide) dX5_findDistances_71 ⟨Nat.zero_le _, Nat.zero_le _⟩ ?_
          refine q_istore hc [(4, .int (iZ ((bey w i : Nat) : Int))), (3, .int (iZ ((i % 64 : Nat) : Int))), (0, .ref (ad 66)), (1, .int (iZ (bZ m2))), (2, .int (iZ ((i : Nat) : Int)))] dX5_findDistances_74 (by decide) rfl ?_
          refine q_aload_n hc 2 dX5_findDistances_76 rfl ?_
          refine q_get hc 66 13 i5 hq24 rfl (by decide) f36 rfl rfl dX5_findDistances_77 ?_
          refine q_iload_n hc 4 dX5_findDistances_80 rfl ?_
          refine q_laldN (j := i) hc 75 hq26 rfl (by omega) (by omega) dX5_findDistances_81 ?_
          refine V.topj (show _ = ((co (ub i) : Nat) : Int) from by rw [hcm i (by omega) g1.1]) ?_
          refine q_lstore hc [(5, .long (jZ ((co (ub i) : Nat) : Int))), (4, .int (iZ ((bey w i : Nat) : Int))), (3, .int (iZ ((i % 64 : Nat) : Int))), (0, .ref (ad 66)), (1, .int (iZ (bZ m2))), (2, .int (iZ ((i : Nat) : Int)))] dX5_findDistances_82 (by decide) rfl ?_
          refine q_aload_n hc 3 dX5_findDistances_84 rfl ?_
          refine q_get hc 66 12 i5 hq24 rfl (by decide) f32 rfl rfl dX5_findDistances_85 ?_
          refine q_iload_n hc 2 dX5_findDistances_88 rfl ?_
          refine q_laldN (j := i % 64) hc 74 hq22 rfl (by omega) (by omega) dX5_findDistances_89 ?_
          refine q_lload hc 0 dX5_findDistances_90 rfl ?_
          refine q_ladd hc dX5_findDistances_92 ?_
          refine q_aload_n hc 3 dX5_findDistances_93 rfl ?_
          refine q_get hc 66 12 i5 hq24 rfl (by decide) f32 rfl rfl dX5_findDistances_94 ?_
          refine q_iload hc 1 dX5_findDistances_97 rfl ?_
          refine q_laldN (j := bey w i) hc 74 hq22 rfl (by omega) (by omega) dX5_findDistances_99 ?_
          refine q_lcmp hc dX5_findDistances_100 (by omega) (by omega) ?_
          refine q_cm_ge hc 122 dX5_findDistances_101 (by decide) (fun c33 => ?_) (fun c33 => ?_)
          · refine q_aload_n hc 3 dX5_findDistances_122 rfl ?_
            refine q_get hc 66 12 i5 hq24 rfl (by decide) f32 rfl rfl dX5_findDistances_123 ?_
            refine q_iload hc 1 dX5_findDistances_126 rfl ?_
            refine q_laldN (j := bey w i) hc 74 hq22 rfl (by omega) (by omega) dX5_findDistances_128 ?_
            refine q_lload hc 0 dX5_findDistances_129 rfl ?_
            refine q_ladd hc dX5_findDistances_131 ?_
            refine q_aload_n hc 3 dX5_findDistances_132 rfl ?_
            refine q_get hc 66 12 i5 hq24 rfl (by decide) f32 rfl rfl dX5_findDistances_133 ?_
            refine q_iload_n hc 2 dX5_findDistances_136 rfl ?_
            refine q_laldN (j := i % 64) hc 74 hq22 rfl (by omega) (by omega) dX5_findDistances_137 ?_
            refine q_lcmp hc dX5_findDistances_138 (by omega) (by omega) ?_
            refine q_cm_ge hc 160 dX5_findDistances_139 (by decide) (fun c34 => ?_) (fun c34 => ?_)
            · refine q_iincN (q := 5) hc 1 [(2, .int (iZ ((i + 1 : Nat) : Int))), (5, .long (jZ ((co (ub i) : Nat) : Int))), (4, .int (iZ ((bey w i : Nat) : Int))), (3, .int (iZ ((i % 64 : Nat) : Int))), (0, .ref (ad 66)), (1, .int (iZ (bZ m2)))] dX5_findDistances_160 rfl rfl (by decide) rfl ?_
              refine q_goto hc 46 dX5_findDistances_163 (by decide) ?_
              refine V.sub [4, 5, 0] rfl ?_
              exact ih46 (i + 1, d2, m2) _ (by omega) ⟨(by omega), (hU2), (hS2), (fun h9 b hb hi9 => by
                    by_cases e : b = i
                    · subst e; exact ⟨show d2 (b % 64) ≤ d2 (bey w b) + co (ub b) by omega, show d2 (bey w b) ≤ d2 (b % 64) + co (ub b) by omega⟩
                    · exact hM2 h9 b (by omega) hi9), (hq22), (fr23)⟩
            · refine q_aload_n hc 3 dX5_findDistances_142 rfl ?_
              refine q_get hc 66 12 i5 hq24 rfl (by decide) f32 rfl rfl dX5_findDistances_143 ?_
              refine q_iload_n hc 2 dX5_findDistances_146 rfl ?_
              refine q_aload_n hc 3 dX5_findDistances_147 rfl ?_
              refine q_get hc 66 12 i5 hq24 rfl (by decide) f32 rfl rfl dX5_findDistances_148 ?_
              refine q_iload hc 1 dX5_findDistances_151 rfl ?_
              refine q_laldN (j := bey w i) hc 74 hq22 rfl (by omega) (by omega) dX5_findDistances_153 ?_
              refine q_lload hc 0 dX5_findDistances_154 rfl ?_
              refine q_ladd hc dX5_findDistances_156 ?_
              refine V.topj (show _ = ((d2 (bey w i) + co (ub i) : Nat) : Int) from by omega) ?_
              refine q_lastN (j := i % 64) (x := d2 (bey w i) + co (ub i)) hc 74 hq22 rfl (by omega) (by omega) dX5_findDistances_157 (fun u35 hn' hf' => ?_)
              have hq36 : u35[74]? = some (ad 74, jN K 64 (va_up d2 (i % 64) (d2 (bey w i) + co (ub i)))) := hn'
              have hq37 := (hf' 66 (by omega)).trans hq24
              have hq38 := (hf' 73 (by omega)).trans hq25
              have hq39 := (hf' 75 (by omega)).trans hq26
              have fr40 := Fr.one hf'
              refine q_iconstN hc 1 dX5_findDistances_158 rfl ?_
              refine q_istore_n hc [(1, .int (iZ ((1 : Nat) : Int))), (5, .long (jZ ((co (ub i) : Nat) : Int))), (4, .int (iZ ((bey w i : Nat) : Int))), (3, .int (iZ ((i % 64 : Nat) : Int))), (0, .ref (ad 66)), (2, .int (iZ ((i : Nat) : Int)))] dX5_findDistances_159 rfl (by decide) rfl ?_
              refine q_iincN (q := 5) hc 1 [(2, .int (iZ ((i + 1 : Nat) : Int))), (1, .int (iZ ((1 : Nat) : Int))), (5, .long (jZ ((co (ub i) : Nat) : Int))), (4, .int (iZ ((bey w i : Nat) : Int))), (3, .int (iZ ((i % 64 : Nat) : Int))), (0, .ref (ad 66))] dX5_findDistances_160 rfl rfl (by decide) rfl ?_
              refine q_goto hc 46 dX5_findDistances_163 (by decide) ?_
              refine V.sub [5, 1, 0] rfl ?_
              exact ih46 (i + 1, va_up d2 (i % 64) (d2 (bey w i) + co (ub i)), true) _ (by omega) ⟨(by omega), (hU2.up g1.1 g1.2.2 (by omega)), (by have h8 := sm_up (f := d2) (a := i % 64) (v := d2 (bey w i) + co (ub i)) (show i % 64 < 64 by omega); show sm (va_up d2 (i % 64) (d2 (bey w i) + co (ub i))) 64 + 1 ≤ sm dv 64; omega), (fun h9 => by cases h9), (hq36), ((fr23.trans fr40 (fun _ _ => by omega)))⟩
          · refine q_aload_n hc 3 dX5_findDistances_104 rfl ?_
            refine q_get hc 66 12 i5 hq24 rfl (by decide) f32 rfl rfl dX5_findDistances_105 ?_
            refine q_iload hc 1 dX5_findDistances_108 rfl ?_
            refine q_aload_n hc 3 dX5_findDistances_110 rfl ?_
            refine q_get hc 66 12 i5 hq24 rfl (by decide) f32 rfl rfl dX5_findDistances_111 ?_
            refine q_iload_n hc 2 dX5_findDistances_114 rfl ?_
            refine q_laldN (j := i % 64) hc 74 hq22 rfl (by omega) (by omega) dX5_findDistances_115 ?_
            refine q_lload hc 0 dX5_findDistances_116 rfl ?_
            refine q_ladd hc dX5_findDistances_118 ?_
            refine V.topj (show _ = ((d2 (i % 64) + co (ub i) : Nat) : Int) from by omega) ?_
            refine q_lastN (j := bey w i) (x := d2 (i % 64) + co (ub i)) hc 74 hq22 rfl (by omega) (by omega) dX5_findDistances_119 (fun u41 hn' hf' => ?_)
            have hq42 : u41[74]? = some (ad 74, jN K 64 (va_up d2 (bey w i) (d2 (i % 64) + co (ub i)))) := hn'
            have hq43 := (hf' 66 (by omega)).trans hq24
            have hq44 := (hf' 73 (by omega)).trans hq25
            have hq45 := (hf' 75 (by omega)).trans hq26
            have fr46 := Fr.one hf'
            have e1 : va_up d2 (bey w i) (d2 (i % 64) + co (ub i)) (bey w i) = d2 (i % 64) + co (ub i) := va_up_self _ _ _
            have e2 : va_up d2 (bey w i) (d2 (i % 64) + co (ub i)) (i % 64) = d2 (i % 64) := va_up_ne _ _ (fun z9 => g5 z9.symm)
            refine q_iconstN hc 1 dX5_findDistances_120 rfl ?_
            refine q_istore_n hc [(1, .int (iZ ((1 : Nat) : Int))), (5, .long (jZ ((co (ub i) : Nat) : Int))), (4, .int (iZ ((bey w i : Nat) : Int))), (3, .int (iZ ((i % 64 : Nat) : Int))), (0, .ref (ad 66)), (2, .int (iZ ((i : Nat) : Int)))] dX5_findDistances_121 rfl (by decide) rfl ?_
            refine q_aload_n hc 4 dX5_findDistances_122 rfl ?_
            refine q_get hc 66 12 i5 hq43 rfl (by decide) f32 rfl rfl dX5_findDistances_123 ?_
            refine q_iload hc 2 dX5_findDistances_126 rfl ?_
            refine q_laldN (j := bey w i) hc 74 hq42 rfl (by omega) (by omega) dX5_findDistances_128 ?_
            refine q_lload hc 1 dX5_findDistances_129 rfl ?_
            refine q_ladd hc dX5_findDistances_131 ?_
            refine q_aload_n hc 4 dX5_findDistances_132 rfl ?_
            refine q_get hc 66 12 i5 hq43 rfl (by decide) f32 rfl rfl dX5_findDistances_133 ?_
            refine q_iload_n hc 3 dX5_findDistances_136 rfl ?_
            refine q_laldN (j := i % 64) hc 74 hq42 rfl (by omega) (by omega) dX5_findDistances_137 ?_
            refine q_lcmp hc dX5_findDistances_138 (by omega) (by omega) ?_
            refine q_cm_ge hc 160 dX5_findDistances_139 (by decide) (fun c47 => ?_) (fun c47 => ?_)
            · refine q_iincN (q := 5) hc 1 [(2, .int (iZ ((i + 1 : Nat) : Int))), (1, .int (iZ ((1 : Nat) : Int))), (5, .long (jZ ((co (ub i) : Nat) : Int))), (4, .int (iZ ((bey w i : Nat) : Int))), (3, .int (iZ ((i % 64 : Nat) : Int))), (0, .ref (ad 66))] dX5_findDistances_160 rfl rfl (by decide) rfl ?_
              refine q_goto hc 46 dX5_findDistances_163 (by decide) ?_
              refine V.sub [5, 1, 0] rfl ?_
              exact ih46 (i + 1, va_up d2 (bey w i) (d2 (i % 64) + co (ub i)), true) _ (by omega) ⟨(by omega), (hU2.up g1.2.1 (Ed_sym hW g1.2.2) (by omega)), (by have h8 := sm_up (f := d2) (a := bey w i) (v := d2 (i % 64) + co (ub i)) (show bey w i < 64 by omega); show sm (va_up d2 (bey w i) (d2 (i % 64) + co (ub i))) 64 + 1 ≤ sm dv 64; omega), (fun h9 => by cases h9), (hq42), ((fr23.trans fr46 (fun _ _ => by omega)))⟩
            · exact absurd (show _ from by omega) c47
        · refine q_goto hc 160 dX5_findDistances_61 (by decide) ?_
          refine q_iincN (q := 2) hc 1 [(2, .int (iZ ((i + 1 : Nat) : Int))), (0, .ref (ad 66)), (1, .int (iZ (bZ m2)))] dX5_findDistances_160 rfl rfl (by decide) rfl ?_
          refine q_goto hc 46 dX5_findDistances_163 (by decide) ?_
          refine V.sub [1, 2, 0] rfl ?_
          exact ih46 (i + 1, d2, m2) _ (by omega) ⟨(by omega), (hU2), (hS2), (fun h9 b hb hi9 => by
                by_cases e : b = i
                · subst e; rw [show isW w h b = false from c30] at hi9; cases hi9
                · exact hM2 h9 b (by omega) hi9), (hq22), (fr23)⟩
  · refine q_aload_n hc 0 dX5_findDistances_8 rfl ?_
    refine q_get hc 66 12 i5 hq4 rfl (by decide) f32 rfl rfl dX5_findDistances_9 ?_
    refine q_iload_n hc 1 dX5_findDistances_12 rfl ?_
    refine q_aload_n hc 0 dX5_findDistances_13 rfl ?_
    refine q_get hc 66 11 i5 hq4 rfl (by decide) f29 rfl rfl dX5_findDistances_14 ?_
    refine q_iload_n hc 1 dX5_findDistances_17 rfl ?_
    refine q_zald (j := i) hc 73 hq5 rfl (by omega) (by omega) dX5_findDistances_18 ?_
    refine q_ifz_eq hc 26 dX5_findDistances_19 (by decide) (fun c48 => ?_) (fun c48 => ?_)
    · refine q_ldc2 (z := 1000000000) hc dX5_findDistances_26 k87 ?_
      refine V.topj (show _ = ((dI tr i : Nat) : Int) from by unfold dI; rw [c48]; rfl) ?_
      refine q_lastN (j := i) (x := dI tr i) hc 74 hq2 rfl (by omega) (by omega) dX5_findDistances_29 (fun u49 hn' hf' => ?_)
      have hq50 : u49[74]? = some (ad 74, jN K 64 (va_up f i (dI tr i))) := hn'
      have hq51 := (hf' 66 (by omega)).trans hq4
      have hq52 := (hf' 73 (by omega)).trans hq5
      have hq53 := (hf' 75 (by omega)).trans hq6
      have fr54 := Fr.one hf'
      refine q_iincN (q := 1) hc 1 [(1, .int (iZ ((i + 1 : Nat) : Int))), (0, .ref (ad 66))] dX5_findDistances_30 rfl rfl (by decide) rfl ?_
      refine q_goto hc 2 dX5_findDistances_33 (by decide) ?_
      refine V.sub [1, 0] rfl ?_
      exact ih2 (i + 1, va_up f i (dI tr i)) _ (by omega) ⟨(by omega), (upd_hf (g := dI tr) hf), (hq50), ((fr3.trans fr54 (fun _ _ => by omega)))⟩
    · refine q_lconst (z := 0) hc dX5_findDistances_22 (by decide +kernel) ?_
      refine q_goto hc 29 dX5_findDistances_23 (by decide) ?_
      refine V.topj (show _ = ((dI tr i : Nat) : Int) from by unfold dI; rw [c48]; rfl) ?_
      refine q_lastN (j := i) (x := dI tr i) hc 74 hq2 rfl (by omega) (by omega) dX5_findDistances_29 (fun u55 hn' hf' => ?_)
      have hq56 : u55[74]? = some (ad 74, jN K 64 (va_up f i (dI tr i))) := hn'
      have hq57 := (hf' 66 (by omega)).trans hq4
      have hq58 := (hf' 73 (by omega)).trans hq5
      have hq59 := (hf' 75 (by omega)).trans hq6
      have fr60 := Fr.one hf'
      refine q_iincN (q := 1) hc 1 [(1, .int (iZ ((i + 1 : Nat) : Int))), (0, .ref (ad 66))] dX5_findDistances_30 rfl rfl (by decide) rfl ?_
      refine q_goto hc 2 dX5_findDistances_33 (by decide) ?_
      refine V.sub [1, 0] rfl ?_
      exact ih2 (i + 1, va_up f i (dI tr i)) _ (by omega) ⟨(by omega), (upd_hf (g := dI tr) hf), (hq56), ((fr3.trans fr60 (fun _ _ => by omega)))⟩

set_option maxRecDepth 100000 in
set_option maxHeartbeats 4000000 in
theorem c_X5_borderTo (l : Launch) (D : va_G) (K : Nat → ClassId) (ws : va_W) (ad : Nat → Nat) (w h n th nc rc : Nat) (q j : Nat) (h66 : ws[66]? = some (ad 66, mO ad w h th nc rc)) (hW : WH w h n) (hq : q < n) (hj : j < 4) : MPi l yX5_borderTo wsX5_borderTo ({ frames := 2, cells := 0, slots := 0, locals := 45 }) D K ws [.ref (ad 66), .int (iZ ((q : Nat) : Int)), .int (iZ ((j : Nat) : Int))] (fun r => r = (iZ (oZ ((btW w h (4 * q + j)).map mbI)))) := by
  refine q_entPi RX5 [(0, .ref (ad 66)), (1, .int (iZ ((q : Nat) : Int))), (2, .int (iZ ((j : Nat) : Int)))] (by decide) rfl rfl (Nat.le_of_ble_eq_true rfl) rfl ?_
  intro p e s m args below meth c hc hr hlk
  have i5 : ∀ w ∈ u_ws RX5 TX5 16, w ∈ wsX5_borderTo := by decide +kernel
  have f45 := hc.1.2.2.2.2 (.fieldLink RX5 45 "GlobalRoutesModel" "width" "I") (by decide +kernel)
  have hn := hW.le; have hw2 := hW.1; have m1 := Nat.mod_lt q (show 0 < w by omega); have m2 := Nat.div_le_self q w; have m3 := Int.natCast_nonneg (q / w); have m4 := Int.natCast_nonneg (q % w)
  rcases (show j = 0 ∨ j = 1 ∨ j = 2 ∨ j = 3 by omega) with e0 | e1 | e2 | e3
  · subst e0
    refine q_iload_n hc 1 dX5_borderTo_0 rfl ?_
    refine q_aload_n hc 0 dX5_borderTo_1 rfl ?_
    refine q_get hc 66 1 i5 h66 rfl (by decide) f45 rfl rfl dX5_borderTo_2 ?_
    refine q_iremN hc dX5_borderTo_5 (by omega) (by omega) ?_
    refine q_istore_n hc [(3, .int (iZ ((q % w : Nat) : Int))), (0, .ref (ad 66)), (1, .int (iZ ((q : Nat) : Int))), (2, .int (iZ ((0 : Nat) : Int)))] dX5_borderTo_6 rfl (by decide) rfl ?_
    refine q_iload_n hc 2 dX5_borderTo_7 rfl ?_
    refine q_aload_n hc 1 dX5_borderTo_8 rfl ?_
    refine q_get hc 66 1 i5 h66 rfl (by decide) f45 rfl rfl dX5_borderTo_9 ?_
    refine q_idivN hc dX5_borderTo_12 (by omega) (by omega) ?_
    refine q_istore hc [(4, .int (iZ ((q / w : Nat) : Int))), (3, .int (iZ ((q % w : Nat) : Int))), (0, .ref (ad 66)), (1, .int (iZ ((q : Nat) : Int))), (2, .int (iZ ((0 : Nat) : Int)))] dX5_borderTo_13 (by decide) rfl ?_
    refine q_iload_n hc 4 dX5_borderTo_15 rfl ?_
    refine q_if_eq hc 24 dX5_borderTo_16 (by decide) (by omega) (fun c1 => ?_) (fun c1 => ?_)
    · refine q_iconstN hc 1 dX5_borderTo_24 rfl ?_
      refine q_goto hc 29 dX5_borderTo_25 (by decide) ?_
      refine q_istore hc [(5, .int (iZ ((1 : Nat) : Int))), (4, .int (iZ ((q / w : Nat) : Int))), (3, .int (iZ ((q % w : Nat) : Int))), (0, .ref (ad 66)), (1, .int (iZ ((q : Nat) : Int))), (2, .int (iZ ((0 : Nat) : Int)))] dX5_borderTo_29 (by decide) rfl ?_
      refine q_iload_n hc 5 dX5_borderTo_31 rfl ?_
      refine q_iconstN hc 1 dX5_borderTo_32 rfl ?_
      refine q_icmpN_ne hc 42 dX5_borderTo_33 (by decide) (by omega) (by omega) (fun c2 => ?_) (fun c2 => ?_)
      · refine q_iload_n hc 2 dX5_borderTo_42 rfl ?_
        refine q_istore hc [(6, .int (iZ ((q % w : Nat) : Int))), (5, .int (iZ ((1 : Nat) : Int))), (4, .int (iZ ((q / w : Nat) : Int))), (3, .int (iZ ((q % w : Nat) : Int))), (0, .ref (ad 66)), (1, .int (iZ ((q : Nat) : Int))), (2, .int (iZ ((0 : Nat) : Int)))] dX5_borderTo_43 (by decide) rfl ?_
        refine q_iload_n hc 6 dX5_borderTo_45 rfl ?_
        refine q_if_ne hc 56 dX5_borderTo_46 (by decide) (by omega) (fun c3 => ?_) (fun c3 => ?_)
        · exact absurd c3 (by omega)
        · refine q_iload hc 2 dX5_borderTo_49 rfl ?_
          refine q_iconstN hc 1 dX5_borderTo_51 rfl ?_
          refine q_isub hc dX5_borderTo_52 ?_
          refine q_goto hc 58 dX5_borderTo_53 (by decide) ?_
          refine q_istore hc [(7, .int (iZ (((q / w : Nat) : Int) - ((1 : Nat) : Int)))), (6, .int (iZ ((q % w : Nat) : Int))), (5, .int (iZ ((1 : Nat) : Int))), (4, .int (iZ ((q / w : Nat) : Int))), (3, .int (iZ ((q % w : Nat) : Int))), (0, .ref (ad 66)), (1, .int (iZ ((q : Nat) : Int))), (2, .int (iZ ((0 : Nat) : Int)))] dX5_borderTo_58 (by decide) rfl ?_
          refine q_aload_n hc 5 dX5_borderTo_60 rfl ?_
          refine q_iload hc 1 dX5_borderTo_61 rfl ?_
          refine q_iload hc 0 dX5_borderTo_63 rfl ?_
          refine q_iload hc 2 dX5_borderTo_65 rfl ?_
          refine q_callPz (As := [.int (iZ ((q % w : Nat) : Int)), .int (iZ (((q / w : Nat) : Int) - ((1 : Nat) : Int))), .int (iZ (bZ true))]) (rest := []) hc (c_X5_isBorder l D K ws ad w h th nc rc ((q % w : Nat) : Int) (((q / w : Nat) : Int) - ((1 : Nat) : Int)) true h66 hw2 (by omega) (by omega)) (cwV 3 hc.1.2.2.2.2 gX5_borderTo_X5_isBorder rfl rfl rfl (by decide +kernel) ⟨Nat.le_of_ble_eq_true rfl, Nat.le_of_ble_eq_true rfl⟩) 66 h66 rfl rfl rfl (by decide) dX5_borderTo_67 ⟨Nat.zero_le _, Nat.zero_le _⟩ ?_
          refine q_ifz_eq hc 86 dX5_borderTo_70 (by decide) (fun c6 => ?_) (fun c6 => ?_)
          · refine q_iconst hc dX5_borderTo_86 ?_
            exact q_iretP (z := (-1)) hc ((congrArg iZ (bT0_false hW hq c6)).symm) hr hlk dX5_borderTo_87
          · have hy9 := hB_yes c6
            refine q_aload_n hc 5 dX5_borderTo_73 rfl ?_
            refine q_iload hc 1 dX5_borderTo_74 rfl ?_
            refine q_iload hc 0 dX5_borderTo_76 rfl ?_
            refine V.topi (show _ = ((q / w - 1 : Nat) : Int) from by omega) ?_
            refine q_iload hc 2 dX5_borderTo_78 rfl ?_
            refine q_callPn (As := [.int (iZ ((q % w : Nat) : Int)), .int (iZ ((q / w - 1 : Nat) : Int)), .int (iZ (bZ true))]) (rest := []) hc (c_X5_numberOf l D K ws ad w h th nc rc (q % w) (q / w - 1) true h66 ) (cwV 3 hc.1.2.2.2.2 gX5_borderTo_X5_numberOf rfl rfl rfl (by decide +kernel) ⟨Nat.le_of_ble_eq_true rfl, Nat.le_of_ble_eq_true rfl⟩) 66 h66 rfl rfl rfl (by decide) dX5_borderTo_80 ⟨Nat.zero_le _, Nat.zero_le _⟩ ?_
            refine q_goto hc 87 dX5_borderTo_83 (by decide) ?_
            exact q_iretP (z := (((q % w) + w * (q / w - 1) + 64 * bN true : Nat) : Int)) hc ((congrArg iZ (bT0_true hW hq c6)).symm) hr hlk dX5_borderTo_87
      · exact absurd c2 (by omega)
    · exact absurd c1 (by omega)
  · subst e1
    refine q_iload_n hc 1 dX5_borderTo_0 rfl ?_
    refine q_aload_n hc 0 dX5_borderTo_1 rfl ?_
    refine q_get hc 66 1 i5 h66 rfl (by decide) f45 rfl rfl dX5_borderTo_2 ?_
    refine q_iremN hc dX5_borderTo_5 (by omega) (by omega) ?_
    refine q_istore_n hc [(3, .int (iZ ((q % w : Nat) : Int))), (0, .ref (ad 66)), (1, .int (iZ ((q : Nat) : Int))), (2, .int (iZ ((1 : Nat) : Int)))] dX5_borderTo_6 rfl (by decide) rfl ?_
    refine q_iload_n hc 2 dX5_borderTo_7 rfl ?_
    refine q_aload_n hc 1 dX5_borderTo_8 rfl ?_
    refine q_get hc 66 1 i5 h66 rfl (by decide) f45 rfl rfl dX5_borderTo_9 ?_
    refine q_idivN hc dX5_borderTo_12 (by omega) (by omega) ?_
    refine q_istore hc [(4, .int (iZ ((q / w : Nat) : Int))), (3, .int (iZ ((q % w : Nat) : Int))), (0, .ref (ad 66)), (1, .int (iZ ((q : Nat) : Int))), (2, .int (iZ ((1 : Nat) : Int)))] dX5_borderTo_13 (by decide) rfl ?_
    refine q_iload_n hc 4 dX5_borderTo_15 rfl ?_
    refine q_if_eq hc 24 dX5_borderTo_16 (by decide) (by omega) (fun c9 => ?_) (fun c9 => ?_)
    · exact absurd c9 (by omega)
    · refine q_iload_n hc 4 dX5_borderTo_19 rfl ?_
      refine q_iconstN hc 3 dX5_borderTo_20 rfl ?_
      refine q_icmpN_ne hc 28 dX5_borderTo_21 (by decide) (by omega) (by omega) (fun c10 => ?_) (fun c10 => ?_)
      · refine q_iconstN hc 0 dX5_borderTo_28 rfl ?_
        refine q_istore hc [(5, .int (iZ ((0 : Nat) : Int))), (4, .int (iZ ((q / w : Nat) : Int))), (3, .int (iZ ((q % w : Nat) : Int))), (0, .ref (ad 66)), (1, .int (iZ ((q : Nat) : Int))), (2, .int (iZ ((1 : Nat) : Int)))] dX5_borderTo_29 (by decide) rfl ?_
        refine q_iload_n hc 5 dX5_borderTo_31 rfl ?_
        refine q_iconstN hc 1 dX5_borderTo_32 rfl ?_
        refine q_icmpN_ne hc 42 dX5_borderTo_33 (by decide) (by omega) (by omega) (fun c11 => ?_) (fun c11 => ?_)
        · exact absurd c11 (by omega)
        · refine q_iload_n hc 2 dX5_borderTo_36 rfl ?_
          refine q_iconstN hc 1 dX5_borderTo_37 rfl ?_
          refine q_isub hc dX5_borderTo_38 ?_
          refine q_goto hc 43 dX5_borderTo_39 (by decide) ?_
          refine q_istore hc [(6, .int (iZ (((q % w : Nat) : Int) - ((1 : Nat) : Int)))), (5, .int (iZ ((0 : Nat) : Int))), (4, .int (iZ ((q / w : Nat) : Int))), (3, .int (iZ ((q % w : Nat) : Int))), (0, .ref (ad 66)), (1, .int (iZ ((q : Nat) : Int))), (2, .int (iZ ((1 : Nat) : Int)))] dX5_borderTo_43 (by decide) rfl ?_
          refine q_iload_n hc 6 dX5_borderTo_45 rfl ?_
          refine q_if_ne hc 56 dX5_borderTo_46 (by decide) (by omega) (fun c12 => ?_) (fun c12 => ?_)
          · refine q_iload hc 2 dX5_borderTo_56 rfl ?_
            refine q_istore hc [(7, .int (iZ ((q / w : Nat) : Int))), (6, .int (iZ (((q % w : Nat) : Int) - ((1 : Nat) : Int)))), (5, .int (iZ ((0 : Nat) : Int))), (4, .int (iZ ((q / w : Nat) : Int))), (3, .int (iZ ((q % w : Nat) : Int))), (0, .ref (ad 66)), (1, .int (iZ ((q : Nat) : Int))), (2, .int (iZ ((1 : Nat) : Int)))] dX5_borderTo_58 (by decide) rfl ?_
            refine q_aload_n hc 5 dX5_borderTo_60 rfl ?_
            refine q_iload hc 1 dX5_borderTo_61 rfl ?_
            refine q_iload hc 0 dX5_borderTo_63 rfl ?_
            refine q_iload hc 2 dX5_borderTo_65 rfl ?_
            refine q_callPz (As := [.int (iZ (((q % w : Nat) : Int) - ((1 : Nat) : Int))), .int (iZ ((q / w : Nat) : Int)), .int (iZ (bZ false))]) (rest := []) hc (c_X5_isBorder l D K ws ad w h th nc rc (((q % w : Nat) : Int) - ((1 : Nat) : Int)) ((q / w : Nat) : Int) false h66 hw2 (by omega) (by omega)) (cwV 3 hc.1.2.2.2.2 gX5_borderTo_X5_isBorder rfl rfl rfl (by decide +kernel) ⟨Nat.le_of_ble_eq_true rfl, Nat.le_of_ble_eq_true rfl⟩) 66 h66 rfl rfl rfl (by decide) dX5_borderTo_67 ⟨Nat.zero_le _, Nat.zero_le _⟩ ?_
            refine q_ifz_eq hc 86 dX5_borderTo_70 (by decide) (fun c15 => ?_) (fun c15 => ?_)
            · refine q_iconst hc dX5_borderTo_86 ?_
              exact q_iretP (z := (-1)) hc ((congrArg iZ (bT1_false hW hq c15)).symm) hr hlk dX5_borderTo_87
            · have hy9 := hB_yes c15
              refine q_aload_n hc 5 dX5_borderTo_73 rfl ?_
              refine q_iload hc 1 dX5_borderTo_74 rfl ?_
              refine V.topi (show _ = ((q % w - 1 : Nat) : Int) from by omega) ?_
              refine q_iload hc 0 dX5_borderTo_76 rfl ?_
              refine q_iload hc 2 dX5_borderTo_78 rfl ?_
              refine q_callPn (As := [.int (iZ ((q % w - 1 : Nat) : Int)), .int (iZ ((q / w : Nat) : Int)), .int (iZ (bZ false))]) (rest := []) hc (c_X5_numberOf l D K ws ad w h th nc rc (q % w - 1) (q / w) false h66 ) (cwV 3 hc.1.2.2.2.2 gX5_borderTo_X5_numberOf rfl rfl rfl (by decide +kernel) ⟨Nat.le_of_ble_eq_true rfl, Nat.le_of_ble_eq_true rfl⟩) 66 h66 rfl rfl rfl (by decide) dX5_borderTo_80 ⟨Nat.zero_le _, Nat.zero_le _⟩ ?_
              refine q_goto hc 87 dX5_borderTo_83 (by decide) ?_
              exact q_iretP (z := (((q % w - 1) + w * (q / w) + 64 * bN false : Nat) : Int)) hc ((congrArg iZ (bT1_true hW hq c15)).symm) hr hlk dX5_borderTo_87
          · exact absurd c12 (by omega)
      · exact absurd c10 (by omega)
  · subst e2
    refine q_iload_n hc 1 dX5_borderTo_0 rfl ?_
    refine q_aload_n hc 0 dX5_borderTo_1 rfl ?_
    refine q_get hc 66 1 i5 h66 rfl (by decide) f45 rfl rfl dX5_borderTo_2 ?_
    refine q_iremN hc dX5_borderTo_5 (by omega) (by omega) ?_
    refine q_istore_n hc [(3, .int (iZ ((q % w : Nat) : Int))), (0, .ref (ad 66)), (1, .int (iZ ((q : Nat) : Int))), (2, .int (iZ ((2 : Nat) : Int)))] dX5_borderTo_6 rfl (by decide) rfl ?_
    refine q_iload_n hc 2 dX5_borderTo_7 rfl ?_
    refine q_aload_n hc 1 dX5_borderTo_8 rfl ?_
    refine q_get hc 66 1 i5 h66 rfl (by decide) f45 rfl rfl dX5_borderTo_9 ?_
    refine q_idivN hc dX5_borderTo_12 (by omega) (by omega) ?_
    refine q_istore hc [(4, .int (iZ ((q / w : Nat) : Int))), (3, .int (iZ ((q % w : Nat) : Int))), (0, .ref (ad 66)), (1, .int (iZ ((q : Nat) : Int))), (2, .int (iZ ((2 : Nat) : Int)))] dX5_borderTo_13 (by decide) rfl ?_
    refine q_iload_n hc 4 dX5_borderTo_15 rfl ?_
    refine q_if_eq hc 24 dX5_borderTo_16 (by decide) (by omega) (fun c18 => ?_) (fun c18 => ?_)
    · exact absurd c18 (by omega)
    · refine q_iload_n hc 4 dX5_borderTo_19 rfl ?_
      refine q_iconstN hc 3 dX5_borderTo_20 rfl ?_
      refine q_icmpN_ne hc 28 dX5_borderTo_21 (by decide) (by omega) (by omega) (fun c19 => ?_) (fun c19 => ?_)
      · refine q_iconstN hc 0 dX5_borderTo_28 rfl ?_
        refine q_istore hc [(5, .int (iZ ((0 : Nat) : Int))), (4, .int (iZ ((q / w : Nat) : Int))), (3, .int (iZ ((q % w : Nat) : Int))), (0, .ref (ad 66)), (1, .int (iZ ((q : Nat) : Int))), (2, .int (iZ ((2 : Nat) : Int)))] dX5_borderTo_29 (by decide) rfl ?_
        refine q_iload_n hc 5 dX5_borderTo_31 rfl ?_
        refine q_iconstN hc 1 dX5_borderTo_32 rfl ?_
        refine q_icmpN_ne hc 42 dX5_borderTo_33 (by decide) (by omega) (by omega) (fun c20 => ?_) (fun c20 => ?_)
        · refine q_iload_n hc 2 dX5_borderTo_42 rfl ?_
          refine q_istore hc [(6, .int (iZ ((q % w : Nat) : Int))), (5, .int (iZ ((0 : Nat) : Int))), (4, .int (iZ ((q / w : Nat) : Int))), (3, .int (iZ ((q % w : Nat) : Int))), (0, .ref (ad 66)), (1, .int (iZ ((q : Nat) : Int))), (2, .int (iZ ((2 : Nat) : Int)))] dX5_borderTo_43 (by decide) rfl ?_
          refine q_iload_n hc 6 dX5_borderTo_45 rfl ?_
          refine q_if_ne hc 56 dX5_borderTo_46 (by decide) (by omega) (fun c21 => ?_) (fun c21 => ?_)
          · refine q_iload hc 2 dX5_borderTo_56 rfl ?_
            refine q_istore hc [(7, .int (iZ ((q / w : Nat) : Int))), (6, .int (iZ ((q % w : Nat) : Int))), (5, .int (iZ ((0 : Nat) : Int))), (4, .int (iZ ((q / w : Nat) : Int))), (3, .int (iZ ((q % w : Nat) : Int))), (0, .ref (ad 66)), (1, .int (iZ ((q : Nat) : Int))), (2, .int (iZ ((2 : Nat) : Int)))] dX5_borderTo_58 (by decide) rfl ?_
            refine q_aload_n hc 5 dX5_borderTo_60 rfl ?_
            refine q_iload hc 1 dX5_borderTo_61 rfl ?_
            refine q_iload hc 0 dX5_borderTo_63 rfl ?_
            refine q_iload hc 2 dX5_borderTo_65 rfl ?_
            refine q_callPz (As := [.int (iZ ((q % w : Nat) : Int)), .int (iZ ((q / w : Nat) : Int)), .int (iZ (bZ false))]) (rest := []) hc (c_X5_isBorder l D K ws ad w h th nc rc ((q % w : Nat) : Int) ((q / w : Nat) : Int) false h66 hw2 (by omega) (by omega)) (cwV 3 hc.1.2.2.2.2 gX5_borderTo_X5_isBorder rfl rfl rfl (by decide +kernel) ⟨Nat.le_of_ble_eq_true rfl, Nat.le_of_ble_eq_true rfl⟩) 66 h66 rfl rfl rfl (by decide) dX5_borderTo_67 ⟨Nat.zero_le _, Nat.zero_le _⟩ ?_
            refine q_ifz_eq hc 86 dX5_borderTo_70 (by decide) (fun c24 => ?_) (fun c24 => ?_)
            · refine q_iconst hc dX5_borderTo_86 ?_
              exact q_iretP (z := (-1)) hc ((congrArg iZ (bT2_false hW hq c24)).symm) hr hlk dX5_borderTo_87
            · have hy9 := hB_yes c24
              refine q_aload_n hc 5 dX5_borderTo_73 rfl ?_
              refine q_iload hc 1 dX5_borderTo_74 rfl ?_
              refine q_iload hc 0 dX5_borderTo_76 rfl ?_
              refine q_iload hc 2 dX5_borderTo_78 rfl ?_
              refine q_callPn (As := [.int (iZ ((q % w : Nat) : Int)), .int (iZ ((q / w : Nat) : Int)), .int (iZ (bZ false))]) (rest := []) hc (c_X5_numberOf l D K ws ad w h th nc rc (q % w) (q / w) false h66 ) (cwV 3 hc.1.2.2.2.2 gX5_borderTo_X5_numberOf rfl rfl rfl (by decide +kernel) ⟨Nat.le_of_ble_eq_true rfl, Nat.le_of_ble_eq_true rfl⟩) 66 h66 rfl rfl rfl (by decide) dX5_borderTo_80 ⟨Nat.zero_le _, Nat.zero_le _⟩ ?_
              refine q_goto hc 87 dX5_borderTo_83 (by decide) ?_
              exact q_iretP (z := (((q % w) + w * (q / w) + 64 * bN false : Nat) : Int)) hc ((congrArg iZ (bT2_true hW hq c24)).symm) hr hlk dX5_borderTo_87
          · exact absurd c21 (by omega)
        · exact absurd c20 (by omega)
      · exact absurd c19 (by omega)
  · subst e3
    refine q_iload_n hc 1 dX5_borderTo_0 rfl ?_
    refine q_aload_n hc 0 dX5_borderTo_1 rfl ?_
    refine q_get hc 66 1 i5 h66 rfl (by decide) f45 rfl rfl dX5_borderTo_2 ?_
    refine q_iremN hc dX5_borderTo_5 (by omega) (by omega) ?_
    refine q_istore_n hc [(3, .int (iZ ((q % w : Nat) : Int))), (0, .ref (ad 66)), (1, .int (iZ ((q : Nat) : Int))), (2, .int (iZ ((3 : Nat) : Int)))] dX5_borderTo_6 rfl (by decide) rfl ?_
    refine q_iload_n hc 2 dX5_borderTo_7 rfl ?_
    refine q_aload_n hc 1 dX5_borderTo_8 rfl ?_
    refine q_get hc 66 1 i5 h66 rfl (by decide) f45 rfl rfl dX5_borderTo_9 ?_
    refine q_idivN hc dX5_borderTo_12 (by omega) (by omega) ?_
    refine q_istore hc [(4, .int (iZ ((q / w : Nat) : Int))), (3, .int (iZ ((q % w : Nat) : Int))), (0, .ref (ad 66)), (1, .int (iZ ((q : Nat) : Int))), (2, .int (iZ ((3 : Nat) : Int)))] dX5_borderTo_13 (by decide) rfl ?_
    refine q_iload_n hc 4 dX5_borderTo_15 rfl ?_
    refine q_if_eq hc 24 dX5_borderTo_16 (by decide) (by omega) (fun c27 => ?_) (fun c27 => ?_)
    · exact absurd c27 (by omega)
    · refine q_iload_n hc 4 dX5_borderTo_19 rfl ?_
      refine q_iconstN hc 3 dX5_borderTo_20 rfl ?_
      refine q_icmpN_ne hc 28 dX5_borderTo_21 (by decide) (by omega) (by omega) (fun c28 => ?_) (fun c28 => ?_)
      · exact absurd c28 (by omega)
      · refine q_iconstN hc 1 dX5_borderTo_24 rfl ?_
        refine q_goto hc 29 dX5_borderTo_25 (by decide) ?_
        refine q_istore hc [(5, .int (iZ ((1 : Nat) : Int))), (4, .int (iZ ((q / w : Nat) : Int))), (3, .int (iZ ((q % w : Nat) : Int))), (0, .ref (ad 66)), (1, .int (iZ ((q : Nat) : Int))), (2, .int (iZ ((3 : Nat) : Int)))] dX5_borderTo_29 (by decide) rfl ?_
        refine q_iload_n hc 5 dX5_borderTo_31 rfl ?_
        refine q_iconstN hc 1 dX5_borderTo_32 rfl ?_
        refine q_icmpN_ne hc 42 dX5_borderTo_33 (by decide) (by omega) (by omega) (fun c29 => ?_) (fun c29 => ?_)
        · refine q_iload_n hc 2 dX5_borderTo_42 rfl ?_
          refine q_istore hc [(6, .int (iZ ((q % w : Nat) : Int))), (5, .int (iZ ((1 : Nat) : Int))), (4, .int (iZ ((q / w : Nat) : Int))), (3, .int (iZ ((q % w : Nat) : Int))), (0, .ref (ad 66)), (1, .int (iZ ((q : Nat) : Int))), (2, .int (iZ ((3 : Nat) : Int)))] dX5_borderTo_43 (by decide) rfl ?_
          refine q_iload_n hc 6 dX5_borderTo_45 rfl ?_
          refine q_if_ne hc 56 dX5_borderTo_46 (by decide) (by omega) (fun c30 => ?_) (fun c30 => ?_)
          · refine q_iload hc 2 dX5_borderTo_56 rfl ?_
            refine q_istore hc [(7, .int (iZ ((q / w : Nat) : Int))), (6, .int (iZ ((q % w : Nat) : Int))), (5, .int (iZ ((1 : Nat) : Int))), (4, .int (iZ ((q / w : Nat) : Int))), (3, .int (iZ ((q % w : Nat) : Int))), (0, .ref (ad 66)), (1, .int (iZ ((q : Nat) : Int))), (2, .int (iZ ((3 : Nat) : Int)))] dX5_borderTo_58 (by decide) rfl ?_
            refine q_aload_n hc 5 dX5_borderTo_60 rfl ?_
            refine q_iload hc 1 dX5_borderTo_61 rfl ?_
            refine q_iload hc 0 dX5_borderTo_63 rfl ?_
            refine q_iload hc 2 dX5_borderTo_65 rfl ?_
            refine q_callPz (As := [.int (iZ ((q % w : Nat) : Int)), .int (iZ ((q / w : Nat) : Int)), .int (iZ (bZ true))]) (rest := []) hc (c_X5_isBorder l D K ws ad w h th nc rc ((q % w : Nat) : Int) ((q / w : Nat) : Int) true h66 hw2 (by omega) (by omega)) (cwV 3 hc.1.2.2.2.2 gX5_borderTo_X5_isBorder rfl rfl rfl (by decide +kernel) ⟨Nat.le_of_ble_eq_true rfl, Nat.le_of_ble_eq_true rfl⟩) 66 h66 rfl rfl rfl (by decide) dX5_borderTo_67 ⟨Nat.zero_le _, Nat.zero_le _⟩ ?_
            refine q_ifz_eq hc 86 dX5_borderTo_70 (by decide) (fun c33 => ?_) (fun c33 => ?_)
            · refine q_iconst hc dX5_borderTo_86 ?_
              exact q_iretP (z := (-1)) hc ((congrArg iZ (bT3_false hW hq c33)).symm) hr hlk dX5_borderTo_87
            · have hy9 := hB_yes c33
              refine q_aload_n hc 5 dX5_borderTo_73 rfl ?_
              refine q_iload hc 1 dX5_borderTo_74 rfl ?_
              refine q_iload hc 0 dX5_borderTo_76 rfl ?_
              refine q_iload hc 2 dX5_borderTo_78 rfl ?_
              refine q_callPn (As := [.int (iZ ((q % w : Nat) : Int)), .int (iZ ((q / w : Nat) : Int)), .int (iZ (bZ true))]) (rest := []) hc (c_X5_numberOf l D K ws ad w h th nc rc (q % w) (q / w) true h66 ) (cwV 3 hc.1.2.2.2.2 gX5_borderTo_X5_numberOf rfl rfl rfl (by decide +kernel) ⟨Nat.le_of_ble_eq_true rfl, Nat.le_of_ble_eq_true rfl⟩) 66 h66 rfl rfl rfl (by decide) dX5_borderTo_80 ⟨Nat.zero_le _, Nat.zero_le _⟩ ?_
              refine q_goto hc 87 dX5_borderTo_83 (by decide) ?_
              exact q_iretP (z := (((q % w) + w * (q / w) + 64 * bN true : Nat) : Int)) hc ((congrArg iZ (bT3_true hW hq c33)).symm) hr hlk dX5_borderTo_87
          · exact absurd c30 (by omega)
        · exact absurd c29 (by omega)
