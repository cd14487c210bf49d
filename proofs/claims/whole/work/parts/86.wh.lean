set_option maxRecDepth 100000 in
set_option maxHeartbeats 16000000 in
theorem lw_line {p : Program} {l : Launch} {e : Env} {s : State} {m : MethodId} {below : List Frame} {meth : Method} {c : Code} {b L : Nat} {xs : Nat → Int32} {D : va_G} {K : Nat → ClassId} {ad : Nat → Nat} {w h n c0 : Nat} (hC : LC p l s m c b L xs D K w h n c0) {t : Nat} (ht : 3 + 5 * t + 5 ≤ L) {nc rc : Nat} {cap us hi pn : Nat → Nat} {rl : Nat → Int} {pi : Nat → Nat → Nat} {ro : Nat → Nat → Bool} {ws : va_W} (hF : FW K ad w h n c0 nc rc cap us hi pn rl pi ro ws) (hG : GI n nc rc cap hi pn pi (us, ro, rl) t) (ih : ∀ (nc rc : Nat) (cap us hi pn : Nat → Nat) (rl : Nat → Int) (pi : Nat → Nat → Nat) (ro : Nat → Nat → Bool) (u : va_W), FW K ad w h n c0 nc rc cap us hi pn rl pi ro u → GI n nc rc cap hi pn pi (us, ro, rl) (t + 1) → V p l e room_1 s m #[Value.ref b] below meth c 8 (79 + 2 * (t + 1)) (8194 + 12 * (t + 1)) (lw_Z below #[Value.ref b] s) (hpM D (va_A [] s.heap.size) s.heap) u [(0, .ref b), (1, .ref (ad 0)), (2, .ref (ad 66)), (3, .ref (ad 78)), (4, .int (iZ ((3 + 5 * t : Nat) : Int)))] 1036 []) : V p l e room_1 s m #[Value.ref b] below meth c 8 (79 + 2 * t) (8194 + 12 * t) (lw_Z below #[Value.ref b] s) (hpM D (va_A [] s.heap.size) s.heap) ws [(0, .ref b), (1, .ref (ad 0)), (2, .ref (ad 66)), (3, .ref (ad 78)), (4, .int (iZ ((3 + 5 * t : Nat) : Int)))] 884 [] := by
  obtain ⟨hc, hXE, hX, hbl, hl, hWH, hc0, hL⟩ := hC
  have hbA : ¬ va_A [] s.heap.size b := no_A hbl
  have hF9 := hF; have hG9 := hG
  obtain ⟨th, co, di, tr, rw, mt, md, mk, mq, le, fo, h0, h1, h2, h3, h4, h5, h6, h7, h8, h9, h10, h11, h12, hR, h29, hN, hP, hO, h66, m67, m68, m69, m70, m71, m72, m73, m74, m75, m76, m77, h78, hrw⟩ := hF
  obtain ⟨hnc, hcap, hhb, hpn0, hpin0, hpif0, hRI, hrc⟩ := hG
  have hn := hWH.le; have hw2 := hWH.1; have hxy := hWH.xy; have hNB := NB_W hWH
  have hw : 0 < w ∧ w ≤ 8 ∧ h ≤ 8 := ⟨by omega, by omega, by omega⟩
  have hI := hRI.1; have hUC : UC n nc us ro := hI.1; have hR0 : RO0 n nc ro rl := hI.2.1; have hRL : RLc n nc ro rl := hRI.2.1; have hrl : ∀ j, j < nc → -1 ≤ rl j ∧ rl j ≤ 128 := hI.2.2; have hus : ∀ k, k < 2 * n → us k ≤ 12 := hI.us hnc
  have hhi : ∀ k, k < 2 * n → hi k ≤ 5120 := fun k hk => by have h9 := hhb k hk; omega
  have hpn : ∀ j, j < nc → pn j ≤ 5 := fun j _ => hpn0 j
  have hpin : ∀ j k, j < nc → k < pn j → pi j k < n := fun j k _ hk => hpin0 j k hk
  have hpif : ∀ j k, j < nc → pi j k < 64 := fun j k _ => hpif0 j k
  obtain ⟨a1, ha1, hr1⟩ : ∃ a9 : Int, (xs (3 + 5 * t + 1)).toInt = a9 ∧ (-2147483648 ≤ a9 ∧ a9 < 2147483648) := ⟨_, rfl, iZ_rng _⟩
  obtain ⟨a2, ha2, hr2⟩ : ∃ a9 : Int, (xs (3 + 5 * t + 2)).toInt = a9 ∧ (-2147483648 ≤ a9 ∧ a9 < 2147483648) := ⟨_, rfl, iZ_rng _⟩
  obtain ⟨a3, ha3, hr3⟩ : ∃ a9 : Int, (xs (3 + 5 * t + 3)).toInt = a9 ∧ (-2147483648 ≤ a9 ∧ a9 < 2147483648) := ⟨_, rfl, iZ_rng _⟩
  obtain ⟨a4, ha4, hr4⟩ : ∃ a9 : Int, (xs (3 + 5 * t + 4)).toInt = a9 ∧ (-2147483648 ≤ a9 ∧ a9 < 2147483648) := ⟨_, rfl, iZ_rng _⟩
  obtain ⟨d1, hd1⟩ : ∃ d9 : Bool, d9 = decide (¬ a1 = 0) := ⟨_, rfl⟩
  refine q_aload_n hc 1 dL_law_884 rfl ?_
  refine q_aload_n hc 0 dL_law_885 rfl ?_
  refine q_iload hc 4 dL_law_886 rfl ?_
  refine q_iconstN hc 1 dL_law_888 rfl ?_
  refine q_iaddN hc dL_law_889 ?_
  refine q_sld (j := 3 + 5 * t + 1) hc hX hbl hbA rfl (by omega) (by omega) dL_law_890 ?_
  refine V.topi (show _ = a1 from ha1) ?_
  refine V.join (lv' := [(0, .ref b), (1, .ref (ad 0)), (2, .ref (ad 66)), (3, .ref (ad 78)), (4, .int (iZ ((3 + 5 * t : Nat) : Int)))]) (pc' := 899) (st' := [.int (iZ (bZ d1)), .ref (ad 0)]) ?_ (fun j899 => ?_)
  · refine q_aload_n hc 0 dL_law_899 rfl ?_
    refine q_iload hc 4 dL_law_900 rfl ?_
    refine q_iconstN hc 2 dL_law_902 rfl ?_
    refine q_iaddN hc dL_law_903 ?_
    refine q_sld (j := 3 + 5 * t + 2) hc hX hbl hbA rfl (by omega) (by omega) dL_law_904 ?_
    refine V.topi (show _ = a2 from ha2) ?_
    refine q_aload_n hc 0 dL_law_905 rfl ?_
    refine q_iload hc 4 dL_law_906 rfl ?_
    refine q_iconstN hc 3 dL_law_908 rfl ?_
    refine q_iaddN hc dL_law_909 ?_
    refine q_sld (j := 3 + 5 * t + 3) hc hX hbl hbA rfl (by omega) (by omega) dL_law_910 ?_
    refine V.topi (show _ = a3 from ha3) ?_
    refine q_aload_n hc 3 dL_law_911 rfl ?_
    refine q_callLi (As := [.ref (ad 0), .int (iZ (bZ d1)), .int (iZ a2), .int (iZ a3), .ref (ad 78)]) (rest := []) hc hXE (c_L_line l hl D K ws ad nc rc d1 a2 a3 w h n cap us pn rl pi fo h0 h1 h2 h3 h29 hN hP h78 hr2 hr3 hn hw hnc hxy hpn hpif) (vx_cwSW 5 hc.1.2.2.2.2 gL_law_L_line rfl rfl rfl (by decide +kernel) ⟨Nat.le_of_ble_eq_true rfl, Nat.le_of_ble_eq_true rfl⟩) rfl rfl (by decide) dL_law_912 ⟨(show _ ≤ 601024 by omega), (show _ ≤ 7293000 by omega)⟩ (fun r u hp' => ?_)
    rcases hp' with ⟨hr9, hx1, hx2, hq3, fr4⟩ | ⟨hr9, x0, hw9⟩ | ⟨hr9, x0, x1, hw9⟩
    · subst hr9
      have hq5 := (fr4.at 0 (by omega)).trans h0
      have hq6 := (fr4.at 1 (by omega)).trans h1
      have hq7 := (fr4.at 2 (by omega)).trans h2
      have hq8 := (fr4.at 3 (by omega)).trans h3
      have hq9 := (fr4.at 4 (by omega)).trans h4
      have hq10 := (fr4.at 5 (by omega)).trans h5
      have hq11 := (fr4.at 6 (by omega)).trans h6
      have hq12 := (fr4.at 7 (by omega)).trans h7
      have hq13 := (fr4.at 8 (by omega)).trans h8
      have hq14 := (fr4.at 9 (by omega)).trans h9
      have hq15 := (fr4.at 10 (by omega)).trans h10
      have hq16 := (fr4.at 11 (by omega)).trans h11
      have hq17 := (fr4.at 12 (by omega)).trans h12
      have hq18 := (fr4.at 29 (by omega)).trans h29
      have hq19 := (fr4.at 66 (by omega)).trans h66
      have hq20 := (fr4.at 67 (by omega)).trans m67
      have hq21 := (fr4.at 68 (by omega)).trans m68
      have hq22 := (fr4.at 69 (by omega)).trans m69
      have hq23 := (fr4.at 70 (by omega)).trans m70
      have hq24 := (fr4.at 71 (by omega)).trans m71
      have hq25 := (fr4.at 72 (by omega)).trans m72
      have hq26 := (fr4.at 73 (by omega)).trans m73
      have hq27 := (fr4.at 74 (by omega)).trans m74
      have hq28 := (fr4.at 75 (by omega)).trans m75
      have hq29 := (fr4.at 76 (by omega)).trans m76
      have hq30 := (fr4.at 77 (by omega)).trans m77
      have hq31 : ∀ s, s < 16 → u[13 + s]? = some (ad (13 + s), iN K n (rw s)) := fun s hs => (fr4.at (13 + s) (by omega)).trans (hR s hs)
      have hq32 : ∀ s, s < 12 → u[30 + 3 * s]? = some (ad (30 + 3 * s), nO ad s (pn s) (rl s)) := fun s hs => (fr4.at (30 + 3 * s) (by omega)).trans (hN s hs)
      have hq33 : ∀ s, s < 12 → u[31 + 3 * s]? = some (ad (31 + 3 * s), iN K 5 (pi s)) := fun s hs => (fr4.at (31 + 3 * s) (by omega)).trans (hP s hs)
      have hq34 : ∀ s, s < 12 → u[32 + 3 * s]? = some (ad (32 + 3 * s), zA K (2 * n) (ro s)) := fun s hs => (fr4.at (32 + 3 * s) (by omega)).trans (hO s hs)
      refine q_istore hc [(5, .int (iZ ((0 : Nat) : Int))), (0, .ref b), (1, .ref (ad 0)), (2, .ref (ad 66)), (3, .ref (ad 78)), (4, .int (iZ ((3 + 5 * t : Nat) : Int)))] dL_law_915 (by decide) rfl ?_
      refine q_aload_n hc 3 dL_law_917 rfl ?_
      refine q_aload_n hc 1 dL_law_918 rfl ?_
      refine q_iload hc 5 dL_law_919 rfl ?_
      refine q_iconstN hc 1 dL_law_921 rfl ?_
      refine q_iaddN hc dL_law_922 ?_
      refine q_sld (j := 3 + 5 * t + 1) hc hX hbl hbA rfl (by omega) (by omega) dL_law_923 ?_
      refine V.topi (show _ = a1 from ha1) ?_
      refine V.join (lv' := [(5, .int (iZ ((0 : Nat) : Int))), (0, .ref b), (1, .ref (ad 0)), (2, .ref (ad 66)), (3, .ref (ad 78)), (4, .int (iZ ((3 + 5 * t : Nat) : Int)))]) (pc' := 932) (st' := [.int (iZ (bZ d1)), .ref (ad 66)]) ?_ (fun j932 => ?_)
      · refine q_aload_n hc 1 dL_law_932 rfl ?_
        refine q_iload hc 5 dL_law_933 rfl ?_
        refine q_iconstN hc 2 dL_law_935 rfl ?_
        refine q_iaddN hc dL_law_936 ?_
        refine q_sld (j := 3 + 5 * t + 2) hc hX hbl hbA rfl (by omega) (by omega) dL_law_937 ?_
        refine V.topi (show _ = a2 from ha2) ?_
        refine q_aload_n hc 1 dL_law_938 rfl ?_
        refine q_iload hc 5 dL_law_939 rfl ?_
        refine q_iconstN hc 3 dL_law_941 rfl ?_
        refine q_iaddN hc dL_law_942 ?_
        refine q_sld (j := 3 + 5 * t + 3) hc hX hbl hbA rfl (by omega) (by omega) dL_law_943 ?_
        refine V.topi (show _ = a3 from ha3) ?_
        refine q_callMi (As := [.int (iZ (bZ d1)), .int (iZ a2), .int (iZ a3)]) (rest := []) hc (c_X5_line l D K u ad w h n th nc rc d1 a2 a3 c0 cap _ pn pi ro hq19 hq20 hq22 hq23 hq25 hr2 hr3 hn hw2 hnc hxy hUC hc0 hcap hus hpn hpif hx1 hx2) (cwV 3 hc.1.2.2.2.2 gL_law_X5_line rfl rfl rfl (by decide +kernel) ⟨Nat.le_of_ble_eq_true rfl, Nat.le_of_ble_eq_true rfl⟩) 66 hq19 rfl rfl rfl (by decide) dL_law_944 ⟨(show _ ≤ 601024 by omega), (show _ ≤ 7293000 by omega)⟩ (fun r36 u35 hp' => ?_)
        obtain ⟨hr39, hq37, fr38⟩ := hp'
        have hq40 := (fr38.at 0 (by omega)).trans hq5
        have hq41 := (fr38.at 1 (by omega)).trans hq6
        have hq42 := (fr38.at 2 (by omega)).trans hq7
        have hq43 := (fr38.at 3 (by omega)).trans hq8
        have hq44 := (fr38.at 4 (by omega)).trans hq9
        have hq45 := (fr38.at 5 (by omega)).trans hq10
        have hq46 := (fr38.at 6 (by omega)).trans hq11
        have hq47 := (fr38.at 7 (by omega)).trans hq12
        have hq48 := (fr38.at 8 (by omega)).trans hq13
        have hq49 := (fr38.at 9 (by omega)).trans hq14
        have hq50 := (fr38.at 10 (by omega)).trans hq15
        have hq51 := (fr38.at 11 (by omega)).trans hq16
        have hq52 := (fr38.at 12 (by omega)).trans hq17
        have hq53 := (fr38.at 29 (by omega)).trans hq18
        have hq54 := (fr38.at 67 (by omega)).trans hq20
        have hq55 := (fr38.at 68 (by omega)).trans hq21
        have hq56 := (fr38.at 69 (by omega)).trans hq22
        have hq57 := (fr38.at 70 (by omega)).trans hq23
        have hq58 := (fr38.at 71 (by omega)).trans hq24
        have hq59 := (fr38.at 72 (by omega)).trans hq25
        have hq60 := (fr38.at 73 (by omega)).trans hq26
        have hq61 := (fr38.at 74 (by omega)).trans hq27
        have hq62 := (fr38.at 75 (by omega)).trans hq28
        have hq63 := (fr38.at 76 (by omega)).trans hq29
        have hq64 := (fr38.at 77 (by omega)).trans hq30
        have hq65 := (fr38.at 78 (by omega)).trans hq3
        have hq66 : ∀ s, s < 16 → u35[13 + s]? = some (ad (13 + s), iN K n (rw s)) := fun s hs => (fr38.at (13 + s) (by omega)).trans (hq31 s hs)
        have hq67 : ∀ s, s < 12 → u35[30 + 3 * s]? = some (ad (30 + 3 * s), nO ad s (pn s) (rl s)) := fun s hs => (fr38.at (30 + 3 * s) (by omega)).trans (hq32 s hs)
        have hq68 : ∀ s, s < 12 → u35[31 + 3 * s]? = some (ad (31 + 3 * s), iN K 5 (pi s)) := fun s hs => (fr38.at (31 + 3 * s) (by omega)).trans (hq33 s hs)
        have hq69 : ∀ s, s < 12 → u35[32 + 3 * s]? = some (ad (32 + 3 * s), zA K (2 * n) (ro s)) := fun s hs => (fr38.at (32 + 3 * s) (by omega)).trans (hq34 s hs)
        subst hr39
        refine q_istore hc [(6, .int (iZ ((lnV w h nc cap us pn pi d1 a2.toNat a3.toNat : Nat) : Int))), (5, .int (iZ ((0 : Nat) : Int))), (0, .ref b), (1, .ref (ad 0)), (2, .ref (ad 66)), (3, .ref (ad 78)), (4, .int (iZ ((3 + 5 * t : Nat) : Int)))] dL_law_947 (by decide) rfl ?_
        refine q_aload_n hc 4 dL_law_949 rfl ?_
        refine q_callPn (As := []) (rest := []) hc (c_X5_thrown l D K u35 ad w h 0 nc rc hq37 ) (cwV 0 hc.1.2.2.2.2 gL_law_X5_thrown rfl rfl rfl (by decide +kernel) ⟨Nat.le_of_ble_eq_true rfl, Nat.le_of_ble_eq_true rfl⟩) 66 hq37 rfl rfl rfl (by decide) dL_law_950 ⟨(show _ ≤ 601024 by omega), (show _ ≤ 7293000 by omega)⟩ ?_
        refine q_iload hc 1 dL_law_953 rfl ?_
        refine q_icmpN_eq hc 960 dL_law_955 (by decide) (by omega) (by omega) (fun c72 => ?_) (fun c72 => ?_)
        · refine q_iload hc 1 dL_law_960 rfl ?_
          refine q_if_ne hc 977 dL_law_962 (by decide) (by omega) (fun c73 => ?_) (fun c73 => ?_)
          · exact absurd rfl c73
          · refine q_aload_n hc 5 dL_law_965 rfl ?_
            refine q_iconstN hc 0 dL_law_966 rfl ?_
            refine q_lald (j := 0) hc 78 hq65 rfl (by omega) (by omega) dL_law_967 ?_
            refine V.topj (show _ = (iZ ((lnV w h nc cap us pn pi d1 a2.toNat a3.toNat : Nat) : Int)).toInt from by rw [va_up_self]) ?_
            refine q_iload hc 0 dL_law_968 rfl ?_
            refine q_i2lw hc dL_law_970 ?_
            refine q_lcmpE hc dL_law_971 (show jZ ((iZ ((lnV w h nc cap us pn pi d1 a2.toNat a3.toNat : Nat) : Int)).toInt) = jZ ((iZ ((lnV w h nc cap us pn pi d1 a2.toNat a3.toNat : Nat) : Int)).toInt) from rfl) ?_
            refine q_if_eq hc 977 dL_law_972 (by decide) (by omega) (fun c74 => ?_) (fun c74 => ?_)
            · refine q_goto hc 1036 dL_law_977 (by decide) ?_
              refine V.widen (k := 79 + 2 * (t + 1)) (n := 8194 + 12 * (t + 1)) (by omega) (by omega) ?_
              refine V.sub [2, 3, 4, 5, 6] rfl ?_
              exact ih nc rc cap us hi pn rl pi ro _ ⟨0, co, di, tr, rw, mt, md, mk, mq, le, va_up fo 0 ((iZ ((lnV w h nc cap us pn pi d1 a2.toNat a3.toNat : Nat) : Int)).toInt), hq40, hq41, hq42, hq43, hq44, hq45, hq46, hq47, hq48, hq49, hq50, hq51, hq52, hq66, hq53, hq67, hq68, hq69, hq37, hq54, hq55, hq56, hq57, hq58, hq59, hq60, hq61, hq62, hq63, hq64, hq65, hrw⟩ (hG9.mono)
            · exact absurd rfl c74
        · exact absurd rfl c72
      · refine q_if_eq hc 931 dL_law_924 (by decide) (by omega) (fun c75 => ?_) (fun c75 => ?_)
        · refine q_iconstN hc 0 dL_law_931 rfl ?_
          refine V.topv (show _ = Value.int (iZ (bZ d1)) from by rw [hd1, show decide (¬ a1 = 0) = false from decide_eq_false (by omega)]; rfl) ?_
          exact j932
        · refine q_iconstN hc 1 dL_law_927 rfl ?_
          refine q_goto hc 932 dL_law_928 (by decide) ?_
          refine V.topv (show _ = Value.int (iZ (bZ d1)) from by rw [hd1, show decide (¬ a1 = 0) = true from decide_eq_true (by omega)]; rfl) ?_
          exact j932
    · subst hw9; subst hr9
      refine q_istore hc [(5, .int (iZ ((1 : Nat) : Int))), (0, .ref b), (1, .ref (ad 0)), (2, .ref (ad 66)), (3, .ref (ad 78)), (4, .int (iZ ((3 + 5 * t : Nat) : Int)))] dL_law_915 (by decide) rfl ?_
      refine q_aload_n hc 3 dL_law_917 rfl ?_
      refine q_aload_n hc 1 dL_law_918 rfl ?_
      refine q_iload hc 5 dL_law_919 rfl ?_
      refine q_iconstN hc 1 dL_law_921 rfl ?_
      refine q_iaddN hc dL_law_922 ?_
      refine q_sld (j := 3 + 5 * t + 1) hc hX hbl hbA rfl (by omega) (by omega) dL_law_923 ?_
      refine V.topi (show _ = a1 from ha1) ?_
      refine V.join (lv' := [(5, .int (iZ ((1 : Nat) : Int))), (0, .ref b), (1, .ref (ad 0)), (2, .ref (ad 66)), (3, .ref (ad 78)), (4, .int (iZ ((3 + 5 * t : Nat) : Int)))]) (pc' := 932) (st' := [.int (iZ (bZ d1)), .ref (ad 66)]) ?_ (fun j932 => ?_)
      · refine q_aload_n hc 1 dL_law_932 rfl ?_
        refine q_iload hc 5 dL_law_933 rfl ?_
        refine q_iconstN hc 2 dL_law_935 rfl ?_
        refine q_iaddN hc dL_law_936 ?_
        refine q_sld (j := 3 + 5 * t + 2) hc hX hbl hbA rfl (by omega) (by omega) dL_law_937 ?_
        refine V.topi (show _ = a2 from ha2) ?_
        refine q_aload_n hc 1 dL_law_938 rfl ?_
        refine q_iload hc 5 dL_law_939 rfl ?_
        refine q_iconstN hc 3 dL_law_941 rfl ?_
        refine q_iaddN hc dL_law_942 ?_
        refine q_sld (j := 3 + 5 * t + 3) hc hX hbl hbA rfl (by omega) (by omega) dL_law_943 ?_
        refine V.topi (show _ = a3 from ha3) ?_
        refine q_callMi (As := [.int (iZ (bZ d1)), .int (iZ a2), .int (iZ a3)]) (rest := []) hc (c_X5_line_e1 l D K ws ad w h th nc rc d1 a2 a3 h66 hr2 hr3 hw2 x0) (cwV 3 hc.1.2.2.2.2 gL_law_X5_line rfl rfl rfl (by decide +kernel) ⟨Nat.le_of_ble_eq_true rfl, Nat.le_of_ble_eq_true rfl⟩) 66 h66 rfl rfl rfl (by decide) dL_law_944 ⟨(show _ ≤ 601024 by omega), (show _ ≤ 7293000 by omega)⟩ (fun r77 u76 hp' => ?_)
        obtain ⟨hr80, hq78, fr79⟩ := hp'
        have hq81 := (fr79.at 0 (by omega)).trans h0
        have hq82 := (fr79.at 1 (by omega)).trans h1
        have hq83 := (fr79.at 2 (by omega)).trans h2
        have hq84 := (fr79.at 3 (by omega)).trans h3
        have hq85 := (fr79.at 4 (by omega)).trans h4
        have hq86 := (fr79.at 5 (by omega)).trans h5
        have hq87 := (fr79.at 6 (by omega)).trans h6
        have hq88 := (fr79.at 7 (by omega)).trans h7
        have hq89 := (fr79.at 8 (by omega)).trans h8
        have hq90 := (fr79.at 9 (by omega)).trans h9
        have hq91 := (fr79.at 10 (by omega)).trans h10
        have hq92 := (fr79.at 11 (by omega)).trans h11
        have hq93 := (fr79.at 12 (by omega)).trans h12
        have hq94 := (fr79.at 29 (by omega)).trans h29
        have hq95 := (fr79.at 67 (by omega)).trans m67
        have hq96 := (fr79.at 68 (by omega)).trans m68
        have hq97 := (fr79.at 69 (by omega)).trans m69
        have hq98 := (fr79.at 70 (by omega)).trans m70
        have hq99 := (fr79.at 71 (by omega)).trans m71
        have hq100 := (fr79.at 72 (by omega)).trans m72
        have hq101 := (fr79.at 73 (by omega)).trans m73
        have hq102 := (fr79.at 74 (by omega)).trans m74
        have hq103 := (fr79.at 75 (by omega)).trans m75
        have hq104 := (fr79.at 76 (by omega)).trans m76
        have hq105 := (fr79.at 77 (by omega)).trans m77
        have hq106 := (fr79.at 78 (by omega)).trans h78
        have hq107 : ∀ s, s < 16 → u76[13 + s]? = some (ad (13 + s), iN K n (rw s)) := fun s hs => (fr79.at (13 + s) (by omega)).trans (hR s hs)
        have hq108 : ∀ s, s < 12 → u76[30 + 3 * s]? = some (ad (30 + 3 * s), nO ad s (pn s) (rl s)) := fun s hs => (fr79.at (30 + 3 * s) (by omega)).trans (hN s hs)
        have hq109 : ∀ s, s < 12 → u76[31 + 3 * s]? = some (ad (31 + 3 * s), iN K 5 (pi s)) := fun s hs => (fr79.at (31 + 3 * s) (by omega)).trans (hP s hs)
        have hq110 : ∀ s, s < 12 → u76[32 + 3 * s]? = some (ad (32 + 3 * s), zA K (2 * n) (ro s)) := fun s hs => (fr79.at (32 + 3 * s) (by omega)).trans (hO s hs)
        subst hr80
        refine q_istore hc [(6, .int (iZ ((0 : Nat) : Int))), (5, .int (iZ ((1 : Nat) : Int))), (0, .ref b), (1, .ref (ad 0)), (2, .ref (ad 66)), (3, .ref (ad 78)), (4, .int (iZ ((3 + 5 * t : Nat) : Int)))] dL_law_947 (by decide) rfl ?_
        refine q_aload_n hc 4 dL_law_949 rfl ?_
        refine q_callPn (As := []) (rest := []) hc (c_X5_thrown l D K u76 ad w h 1 nc rc hq78 ) (cwV 0 hc.1.2.2.2.2 gL_law_X5_thrown rfl rfl rfl (by decide +kernel) ⟨Nat.le_of_ble_eq_true rfl, Nat.le_of_ble_eq_true rfl⟩) 66 hq78 rfl rfl rfl (by decide) dL_law_950 ⟨(show _ ≤ 601024 by omega), (show _ ≤ 7293000 by omega)⟩ ?_
        refine q_iload hc 1 dL_law_953 rfl ?_
        refine q_icmpN_eq hc 960 dL_law_955 (by decide) (by omega) (by omega) (fun c113 => ?_) (fun c113 => ?_)
        · refine q_iload hc 1 dL_law_960 rfl ?_
          refine q_if_ne hc 977 dL_law_962 (by decide) (by omega) (fun c114 => ?_) (fun c114 => ?_)
          · refine q_goto hc 1036 dL_law_977 (by decide) ?_
            refine V.widen (k := 79 + 2 * (t + 1)) (n := 8194 + 12 * (t + 1)) (by omega) (by omega) ?_
            refine V.sub [2, 3, 4, 5, 6] rfl ?_
            exact ih nc rc cap us hi pn rl pi ro _ ⟨1, co, di, tr, rw, mt, md, mk, mq, le, fo, hq81, hq82, hq83, hq84, hq85, hq86, hq87, hq88, hq89, hq90, hq91, hq92, hq93, hq107, hq94, hq108, hq109, hq110, hq78, hq95, hq96, hq97, hq98, hq99, hq100, hq101, hq102, hq103, hq104, hq105, hq106, hrw⟩ (hG9.mono)
          · exact absurd c114 (by decide)
        · exact absurd rfl c113
      · refine q_if_eq hc 931 dL_law_924 (by decide) (by omega) (fun c115 => ?_) (fun c115 => ?_)
        · refine q_iconstN hc 0 dL_law_931 rfl ?_
          refine V.topv (show _ = Value.int (iZ (bZ d1)) from by rw [hd1, show decide (¬ a1 = 0) = false from decide_eq_false (by omega)]; rfl) ?_
          exact j932
        · refine q_iconstN hc 1 dL_law_927 rfl ?_
          refine q_goto hc 932 dL_law_928 (by decide) ?_
          refine V.topv (show _ = Value.int (iZ (bZ d1)) from by rw [hd1, show decide (¬ a1 = 0) = true from decide_eq_true (by omega)]; rfl) ?_
          exact j932
    · subst hw9; subst hr9
      refine q_istore hc [(5, .int (iZ ((2 : Nat) : Int))), (0, .ref b), (1, .ref (ad 0)), (2, .ref (ad 66)), (3, .ref (ad 78)), (4, .int (iZ ((3 + 5 * t : Nat) : Int)))] dL_law_915 (by decide) rfl ?_
      refine q_aload_n hc 3 dL_law_917 rfl ?_
      refine q_aload_n hc 1 dL_law_918 rfl ?_
      refine q_iload hc 5 dL_law_919 rfl ?_
      refine q_iconstN hc 1 dL_law_921 rfl ?_
      refine q_iaddN hc dL_law_922 ?_
      refine q_sld (j := 3 + 5 * t + 1) hc hX hbl hbA rfl (by omega) (by omega) dL_law_923 ?_
      refine V.topi (show _ = a1 from ha1) ?_
      refine V.join (lv' := [(5, .int (iZ ((2 : Nat) : Int))), (0, .ref b), (1, .ref (ad 0)), (2, .ref (ad 66)), (3, .ref (ad 78)), (4, .int (iZ ((3 + 5 * t : Nat) : Int)))]) (pc' := 932) (st' := [.int (iZ (bZ d1)), .ref (ad 66)]) ?_ (fun j932 => ?_)
      · refine q_aload_n hc 1 dL_law_932 rfl ?_
        refine q_iload hc 5 dL_law_933 rfl ?_
        refine q_iconstN hc 2 dL_law_935 rfl ?_
        refine q_iaddN hc dL_law_936 ?_
        refine q_sld (j := 3 + 5 * t + 2) hc hX hbl hbA rfl (by omega) (by omega) dL_law_937 ?_
        refine V.topi (show _ = a2 from ha2) ?_
        refine q_aload_n hc 1 dL_law_938 rfl ?_
        refine q_iload hc 5 dL_law_939 rfl ?_
        refine q_iconstN hc 3 dL_law_941 rfl ?_
        refine q_iaddN hc dL_law_942 ?_
        refine q_sld (j := 3 + 5 * t + 3) hc hX hbl hbA rfl (by omega) (by omega) dL_law_943 ?_
        refine V.topi (show _ = a3 from ha3) ?_
        refine q_callMi (As := [.int (iZ (bZ d1)), .int (iZ a2), .int (iZ a3)]) (rest := []) hc (c_X5_line_e2 l D K ws ad w h th nc rc d1 a2 a3 h66 hr2 hr3 hw2 x0 x1) (cwV 3 hc.1.2.2.2.2 gL_law_X5_line rfl rfl rfl (by decide +kernel) ⟨Nat.le_of_ble_eq_true rfl, Nat.le_of_ble_eq_true rfl⟩) 66 h66 rfl rfl rfl (by decide) dL_law_944 ⟨(show _ ≤ 601024 by omega), (show _ ≤ 7293000 by omega)⟩ (fun r117 u116 hp' => ?_)
        obtain ⟨hr120, hq118, fr119⟩ := hp'
        have hq121 := (fr119.at 0 (by omega)).trans h0
        have hq122 := (fr119.at 1 (by omega)).trans h1
        have hq123 := (fr119.at 2 (by omega)).trans h2
        have hq124 := (fr119.at 3 (by omega)).trans h3
        have hq125 := (fr119.at 4 (by omega)).trans h4
        have hq126 := (fr119.at 5 (by omega)).trans h5
        have hq127 := (fr119.at 6 (by omega)).trans h6
        have hq128 := (fr119.at 7 (by omega)).trans h7
        have hq129 := (fr119.at 8 (by omega)).trans h8
        have hq130 := (fr119.at 9 (by omega)).trans h9
        have hq131 := (fr119.at 10 (by omega)).trans h10
        have hq132 := (fr119.at 11 (by omega)).trans h11
        have hq133 := (fr119.at 12 (by omega)).trans h12
        have hq134 := (fr119.at 29 (by omega)).trans h29
        have hq135 := (fr119.at 67 (by omega)).trans m67
        have hq136 := (fr119.at 68 (by omega)).trans m68
        have hq137 := (fr119.at 69 (by omega)).trans m69
        have hq138 := (fr119.at 70 (by omega)).trans m70
        have hq139 := (fr119.at 71 (by omega)).trans m71
        have hq140 := (fr119.at 72 (by omega)).trans m72
        have hq141 := (fr119.at 73 (by omega)).trans m73
        have hq142 := (fr119.at 74 (by omega)).trans m74
        have hq143 := (fr119.at 75 (by omega)).trans m75
        have hq144 := (fr119.at 76 (by omega)).trans m76
        have hq145 := (fr119.at 77 (by omega)).trans m77
        have hq146 := (fr119.at 78 (by omega)).trans h78
        have hq147 : ∀ s, s < 16 → u116[13 + s]? = some (ad (13 + s), iN K n (rw s)) := fun s hs => (fr119.at (13 + s) (by omega)).trans (hR s hs)
        have hq148 : ∀ s, s < 12 → u116[30 + 3 * s]? = some (ad (30 + 3 * s), nO ad s (pn s) (rl s)) := fun s hs => (fr119.at (30 + 3 * s) (by omega)).trans (hN s hs)
        have hq149 : ∀ s, s < 12 → u116[31 + 3 * s]? = some (ad (31 + 3 * s), iN K 5 (pi s)) := fun s hs => (fr119.at (31 + 3 * s) (by omega)).trans (hP s hs)
        have hq150 : ∀ s, s < 12 → u116[32 + 3 * s]? = some (ad (32 + 3 * s), zA K (2 * n) (ro s)) := fun s hs => (fr119.at (32 + 3 * s) (by omega)).trans (hO s hs)
        subst hr120
        refine q_istore hc [(6, .int (iZ ((0 : Nat) : Int))), (5, .int (iZ ((2 : Nat) : Int))), (0, .ref b), (1, .ref (ad 0)), (2, .ref (ad 66)), (3, .ref (ad 78)), (4, .int (iZ ((3 + 5 * t : Nat) : Int)))] dL_law_947 (by decide) rfl ?_
        refine q_aload_n hc 4 dL_law_949 rfl ?_
        refine q_callPn (As := []) (rest := []) hc (c_X5_thrown l D K u116 ad w h 2 nc rc hq118 ) (cwV 0 hc.1.2.2.2.2 gL_law_X5_thrown rfl rfl rfl (by decide +kernel) ⟨Nat.le_of_ble_eq_true rfl, Nat.le_of_ble_eq_true rfl⟩) 66 hq118 rfl rfl rfl (by decide) dL_law_950 ⟨(show _ ≤ 601024 by omega), (show _ ≤ 7293000 by omega)⟩ ?_
        refine q_iload hc 1 dL_law_953 rfl ?_
        refine q_icmpN_eq hc 960 dL_law_955 (by decide) (by omega) (by omega) (fun c153 => ?_) (fun c153 => ?_)
        · refine q_iload hc 1 dL_law_960 rfl ?_
          refine q_if_ne hc 977 dL_law_962 (by decide) (by omega) (fun c154 => ?_) (fun c154 => ?_)
          · refine q_goto hc 1036 dL_law_977 (by decide) ?_
            refine V.widen (k := 79 + 2 * (t + 1)) (n := 8194 + 12 * (t + 1)) (by omega) (by omega) ?_
            refine V.sub [2, 3, 4, 5, 6] rfl ?_
            exact ih nc rc cap us hi pn rl pi ro _ ⟨2, co, di, tr, rw, mt, md, mk, mq, le, fo, hq121, hq122, hq123, hq124, hq125, hq126, hq127, hq128, hq129, hq130, hq131, hq132, hq133, hq147, hq134, hq148, hq149, hq150, hq118, hq135, hq136, hq137, hq138, hq139, hq140, hq141, hq142, hq143, hq144, hq145, hq146, hrw⟩ (hG9.mono)
          · exact absurd c154 (by decide)
        · exact absurd rfl c153
      · refine q_if_eq hc 931 dL_law_924 (by decide) (by omega) (fun c155 => ?_) (fun c155 => ?_)
        · refine q_iconstN hc 0 dL_law_931 rfl ?_
          refine V.topv (show _ = Value.int (iZ (bZ d1)) from by rw [hd1, show decide (¬ a1 = 0) = false from decide_eq_false (by omega)]; rfl) ?_
          exact j932
        · refine q_iconstN hc 1 dL_law_927 rfl ?_
          refine q_goto hc 932 dL_law_928 (by decide) ?_
          refine V.topv (show _ = Value.int (iZ (bZ d1)) from by rw [hd1, show decide (¬ a1 = 0) = true from decide_eq_true (by omega)]; rfl) ?_
          exact j932
  · refine q_if_eq hc 898 dL_law_891 (by decide) (by omega) (fun c156 => ?_) (fun c156 => ?_)
    · refine q_iconstN hc 0 dL_law_898 rfl ?_
      refine V.topv (show _ = Value.int (iZ (bZ d1)) from by rw [hd1, show decide (¬ a1 = 0) = false from decide_eq_false (by omega)]; rfl) ?_
      exact j899
    · refine q_iconstN hc 1 dL_law_894 rfl ?_
      refine q_goto hc 899 dL_law_895 (by decide) ?_
      refine V.topv (show _ = Value.int (iZ (bZ d1)) from by rw [hd1, show decide (¬ a1 = 0) = true from decide_eq_true (by omega)]; rfl) ?_
      exact j899

set_option maxRecDepth 100000 in
set_option maxHeartbeats 16000000 in
theorem lw_told {p : Program} {l : Launch} {e : Env} {s : State} {m : MethodId} {below : List Frame} {meth : Method} {c : Code} {b L : Nat} {xs : Nat → Int32} {D : va_G} {K : Nat → ClassId} {ad : Nat → Nat} {w h n c0 : Nat} (hC : LC p l s m c b L xs D K w h n c0) {t : Nat} (ht : 3 + 5 * t + 5 ≤ L) {nc rc : Nat} {cap us hi pn : Nat → Nat} {rl : Nat → Int} {pi : Nat → Nat → Nat} {ro : Nat → Nat → Bool} {ws : va_W} (hF : FW K ad w h n c0 nc rc cap us hi pn rl pi ro ws) (hG : GI n nc rc cap hi pn pi (us, ro, rl) t) (ih : ∀ (nc rc : Nat) (cap us hi pn : Nat → Nat) (rl : Nat → Int) (pi : Nat → Nat → Nat) (ro : Nat → Nat → Bool) (u : va_W), FW K ad w h n c0 nc rc cap us hi pn rl pi ro u → GI n nc rc cap hi pn pi (us, ro, rl) (t + 1) → V p l e room_1 s m #[Value.ref b] below meth c 8 (79 + 2 * (t + 1)) (8194 + 12 * (t + 1)) (lw_Z below #[Value.ref b] s) (hpM D (va_A [] s.heap.size) s.heap) u [(0, .ref b), (1, .ref (ad 0)), (2, .ref (ad 66)), (3, .ref (ad 78)), (4, .int (iZ ((3 + 5 * t : Nat) : Int)))] 1036 []) : V p l e room_1 s m #[Value.ref b] below meth c 8 (79 + 2 * t) (8194 + 12 * t) (lw_Z below #[Value.ref b] s) (hpM D (va_A [] s.heap.size) s.heap) ws [(0, .ref b), (1, .ref (ad 0)), (2, .ref (ad 66)), (3, .ref (ad 78)), (4, .int (iZ ((3 + 5 * t : Nat) : Int)))] 980 [] := by
  obtain ⟨hc, hXE, hX, hbl, hl, hWH, hc0, hL⟩ := hC
  have hbA : ¬ va_A [] s.heap.size b := no_A hbl
  have hF9 := hF; have hG9 := hG
  obtain ⟨th, co, di, tr, rw, mt, md, mk, mq, le, fo, h0, h1, h2, h3, h4, h5, h6, h7, h8, h9, h10, h11, h12, hR, h29, hN, hP, hO, h66, m67, m68, m69, m70, m71, m72, m73, m74, m75, m76, m77, h78, hrw⟩ := hF
  obtain ⟨hnc, hcap, hhb, hpn0, hpin0, hpif0, hRI, hrc⟩ := hG
  have hn := hWH.le; have hw2 := hWH.1; have hxy := hWH.xy; have hNB := NB_W hWH
  have hw : 0 < w ∧ w ≤ 8 ∧ h ≤ 8 := ⟨by omega, by omega, by omega⟩
  have hI := hRI.1; have hUC : UC n nc us ro := hI.1; have hR0 : RO0 n nc ro rl := hI.2.1; have hRL : RLc n nc ro rl := hRI.2.1; have hrl : ∀ j, j < nc → -1 ≤ rl j ∧ rl j ≤ 128 := hI.2.2; have hus : ∀ k, k < 2 * n → us k ≤ 12 := hI.us hnc
  have hhi : ∀ k, k < 2 * n → hi k ≤ 5120 := fun k hk => by have h9 := hhb k hk; omega
  have hpn : ∀ j, j < nc → pn j ≤ 5 := fun j _ => hpn0 j
  have hpin : ∀ j k, j < nc → k < pn j → pi j k < n := fun j k _ hk => hpin0 j k hk
  have hpif : ∀ j k, j < nc → pi j k < 64 := fun j k _ => hpif0 j k
  obtain ⟨a1, ha1, hr1⟩ : ∃ a9 : Int, (xs (3 + 5 * t + 1)).toInt = a9 ∧ (-2147483648 ≤ a9 ∧ a9 < 2147483648) := ⟨_, rfl, iZ_rng _⟩
  obtain ⟨a2, ha2, hr2⟩ : ∃ a9 : Int, (xs (3 + 5 * t + 2)).toInt = a9 ∧ (-2147483648 ≤ a9 ∧ a9 < 2147483648) := ⟨_, rfl, iZ_rng _⟩
  obtain ⟨a3, ha3, hr3⟩ : ∃ a9 : Int, (xs (3 + 5 * t + 3)).toInt = a9 ∧ (-2147483648 ≤ a9 ∧ a9 < 2147483648) := ⟨_, rfl, iZ_rng _⟩
  obtain ⟨a4, ha4, hr4⟩ : ∃ a9 : Int, (xs (3 + 5 * t + 4)).toInt = a9 ∧ (-2147483648 ≤ a9 ∧ a9 < 2147483648) := ⟨_, rfl, iZ_rng _⟩
  refine q_aload_n hc 1 dL_law_980 rfl ?_
  refine q_aload_n hc 0 dL_law_981 rfl ?_
  refine q_iload hc 4 dL_law_982 rfl ?_
  refine q_iconstN hc 1 dL_law_984 rfl ?_
  refine q_iaddN hc dL_law_985 ?_
  refine q_sld (j := 3 + 5 * t + 1) hc hX hbl hbA rfl (by omega) (by omega) dL_law_986 ?_
  refine V.topi (show _ = a1 from ha1) ?_
  refine q_aload_n hc 3 dL_law_987 rfl ?_
  refine q_callLi (As := [.ref (ad 0), .int (iZ a1), .ref (ad 78)]) (rest := []) hc hXE (c_L_told l hl D K ws ad nc rc a1 w h n cap us pn rl fo h0 h1 h2 h3 h29 hN h78 hr1 hn hnc hcap hus hrl) (vx_cwSW 3 hc.1.2.2.2.2 gL_law_L_told rfl rfl rfl (by decide +kernel) ⟨Nat.le_of_ble_eq_true rfl, Nat.le_of_ble_eq_true rfl⟩) rfl rfl (by decide) dL_law_988 ⟨(show _ ≤ 601024 by omega), (show _ ≤ 7293000 by omega)⟩ (fun r u hp' => ?_)
  rcases hp' with ⟨hr9, hx1, hq2, fr3⟩ | ⟨hr9, x0, hw9⟩
  · subst hr9
    have hq4 := (fr3.at 0 (by omega)).trans h0
    have hq5 := (fr3.at 1 (by omega)).trans h1
    have hq6 := (fr3.at 2 (by omega)).trans h2
    have hq7 := (fr3.at 3 (by omega)).trans h3
    have hq8 := (fr3.at 4 (by omega)).trans h4
    have hq9 := (fr3.at 5 (by omega)).trans h5
    have hq10 := (fr3.at 6 (by omega)).trans h6
    have hq11 := (fr3.at 7 (by omega)).trans h7
    have hq12 := (fr3.at 8 (by omega)).trans h8
    have hq13 := (fr3.at 9 (by omega)).trans h9
    have hq14 := (fr3.at 10 (by omega)).trans h10
    have hq15 := (fr3.at 11 (by omega)).trans h11
    have hq16 := (fr3.at 12 (by omega)).trans h12
    have hq17 := (fr3.at 29 (by omega)).trans h29
    have hq18 := (fr3.at 66 (by omega)).trans h66
    have hq19 := (fr3.at 67 (by omega)).trans m67
    have hq20 := (fr3.at 68 (by omega)).trans m68
    have hq21 := (fr3.at 69 (by omega)).trans m69
    have hq22 := (fr3.at 70 (by omega)).trans m70
    have hq23 := (fr3.at 71 (by omega)).trans m71
    have hq24 := (fr3.at 72 (by omega)).trans m72
    have hq25 := (fr3.at 73 (by omega)).trans m73
    have hq26 := (fr3.at 74 (by omega)).trans m74
    have hq27 := (fr3.at 75 (by omega)).trans m75
    have hq28 := (fr3.at 76 (by omega)).trans m76
    have hq29 := (fr3.at 77 (by omega)).trans m77
    have hq30 : ∀ s, s < 16 → u[13 + s]? = some (ad (13 + s), iN K n (rw s)) := fun s hs => (fr3.at (13 + s) (by omega)).trans (hR s hs)
    have hq31 : ∀ s, s < 12 → u[30 + 3 * s]? = some (ad (30 + 3 * s), nO ad s (pn s) (rl s)) := fun s hs => (fr3.at (30 + 3 * s) (by omega)).trans (hN s hs)
    have hq32 : ∀ s, s < 12 → u[31 + 3 * s]? = some (ad (31 + 3 * s), iN K 5 (pi s)) := fun s hs => (fr3.at (31 + 3 * s) (by omega)).trans (hP s hs)
    have hq33 : ∀ s, s < 12 → u[32 + 3 * s]? = some (ad (32 + 3 * s), zA K (2 * n) (ro s)) := fun s hs => (fr3.at (32 + 3 * s) (by omega)).trans (hO s hs)
    refine q_istore hc [(5, .int (iZ ((0 : Nat) : Int))), (0, .ref b), (1, .ref (ad 0)), (2, .ref (ad 66)), (3, .ref (ad 78)), (4, .int (iZ ((3 + 5 * t : Nat) : Int)))] dL_law_991 (by decide) rfl ?_
    refine q_aload_n hc 3 dL_law_993 rfl ?_
    refine q_aload_n hc 1 dL_law_994 rfl ?_
    refine q_iload hc 5 dL_law_995 rfl ?_
    refine q_iconstN hc 1 dL_law_997 rfl ?_
    refine q_iaddN hc dL_law_998 ?_
    refine q_sld (j := 3 + 5 * t + 1) hc hX hbl hbA rfl (by omega) (by omega) dL_law_999 ?_
    refine V.topi (show _ = a1 from ha1) ?_
    refine q_callMi (As := [.int (iZ a1)]) (rest := []) hc (c_X5_told l D K u ad w h n th nc rc a1 c0 cap _ rl ro hq18 hq19 hq23 hq24 hr1 hn hnc hUC hc0 hcap hus hRL hR0 hx1) (cwV 1 hc.1.2.2.2.2 gL_law_X5_told rfl rfl rfl (by decide +kernel) ⟨Nat.le_of_ble_eq_true rfl, Nat.le_of_ble_eq_true rfl⟩) 66 hq18 rfl rfl rfl (by decide) dL_law_1000 ⟨(show _ ≤ 601024 by omega), (show _ ≤ 7293000 by omega)⟩ (fun r35 u34 hp' => ?_)
    obtain ⟨hr38, hq36, fr37⟩ := hp'
    have hq39 := (fr37.at 0 (by omega)).trans hq4
    have hq40 := (fr37.at 1 (by omega)).trans hq5
    have hq41 := (fr37.at 2 (by omega)).trans hq6
    have hq42 := (fr37.at 3 (by omega)).trans hq7
    have hq43 := (fr37.at 4 (by omega)).trans hq8
    have hq44 := (fr37.at 5 (by omega)).trans hq9
    have hq45 := (fr37.at 6 (by omega)).trans hq10
    have hq46 := (fr37.at 7 (by omega)).trans hq11
    have hq47 := (fr37.at 8 (by omega)).trans hq12
    have hq48 := (fr37.at 9 (by omega)).trans hq13
    have hq49 := (fr37.at 10 (by omega)).trans hq14
    have hq50 := (fr37.at 11 (by omega)).trans hq15
    have hq51 := (fr37.at 12 (by omega)).trans hq16
    have hq52 := (fr37.at 29 (by omega)).trans hq17
    have hq53 := (fr37.at 67 (by omega)).trans hq19
    have hq54 := (fr37.at 68 (by omega)).trans hq20
    have hq55 := (fr37.at 69 (by omega)).trans hq21
    have hq56 := (fr37.at 70 (by omega)).trans hq22
    have hq57 := (fr37.at 71 (by omega)).trans hq23
    have hq58 := (fr37.at 72 (by omega)).trans hq24
    have hq59 := (fr37.at 73 (by omega)).trans hq25
    have hq60 := (fr37.at 74 (by omega)).trans hq26
    have hq61 := (fr37.at 75 (by omega)).trans hq27
    have hq62 := (fr37.at 76 (by omega)).trans hq28
    have hq63 := (fr37.at 77 (by omega)).trans hq29
    have hq64 := (fr37.at 78 (by omega)).trans hq2
    have hq65 : ∀ s, s < 16 → u34[13 + s]? = some (ad (13 + s), iN K n (rw s)) := fun s hs => (fr37.at (13 + s) (by omega)).trans (hq30 s hs)
    have hq66 : ∀ s, s < 12 → u34[30 + 3 * s]? = some (ad (30 + 3 * s), nO ad s (pn s) (rl s)) := fun s hs => (fr37.at (30 + 3 * s) (by omega)).trans (hq31 s hs)
    have hq67 : ∀ s, s < 12 → u34[31 + 3 * s]? = some (ad (31 + 3 * s), iN K 5 (pi s)) := fun s hs => (fr37.at (31 + 3 * s) (by omega)).trans (hq32 s hs)
    have hq68 : ∀ s, s < 12 → u34[32 + 3 * s]? = some (ad (32 + 3 * s), zA K (2 * n) (ro s)) := fun s hs => (fr37.at (32 + 3 * s) (by omega)).trans (hq33 s hs)
    subst hr38
    refine q_istore hc [(6, .int (iZ ((tdV w h n nc rc cap us rl a1.toNat : Nat) : Int))), (5, .int (iZ ((0 : Nat) : Int))), (0, .ref b), (1, .ref (ad 0)), (2, .ref (ad 66)), (3, .ref (ad 78)), (4, .int (iZ ((3 + 5 * t : Nat) : Int)))] dL_law_1003 (by decide) rfl ?_
    refine q_aload_n hc 4 dL_law_1005 rfl ?_
    refine q_callPn (As := []) (rest := []) hc (c_X5_thrown l D K u34 ad w h 0 nc rc hq36 ) (cwV 0 hc.1.2.2.2.2 gL_law_X5_thrown rfl rfl rfl (by decide +kernel) ⟨Nat.le_of_ble_eq_true rfl, Nat.le_of_ble_eq_true rfl⟩) 66 hq36 rfl rfl rfl (by decide) dL_law_1006 ⟨(show _ ≤ 601024 by omega), (show _ ≤ 7293000 by omega)⟩ ?_
    refine q_iload hc 1 dL_law_1009 rfl ?_
    refine q_icmpN_eq hc 1016 dL_law_1011 (by decide) (by omega) (by omega) (fun c71 => ?_) (fun c71 => ?_)
    · refine q_iload hc 1 dL_law_1016 rfl ?_
      refine q_if_ne hc 1033 dL_law_1018 (by decide) (by omega) (fun c72 => ?_) (fun c72 => ?_)
      · exact absurd rfl c72
      · refine q_aload_n hc 5 dL_law_1021 rfl ?_
        refine q_iconstN hc 0 dL_law_1022 rfl ?_
        refine q_lald (j := 0) hc 78 hq64 rfl (by omega) (by omega) dL_law_1023 ?_
        refine V.topj (show _ = (iZ ((tdV w h n nc rc cap us rl a1.toNat : Nat) : Int)).toInt from by rw [va_up_self]) ?_
        refine q_iload hc 0 dL_law_1024 rfl ?_
        refine q_i2lw hc dL_law_1026 ?_
        refine q_lcmpE hc dL_law_1027 (show jZ ((iZ ((tdV w h n nc rc cap us rl a1.toNat : Nat) : Int)).toInt) = jZ ((iZ ((tdV w h n nc rc cap us rl a1.toNat : Nat) : Int)).toInt) from rfl) ?_
        refine q_if_eq hc 1033 dL_law_1028 (by decide) (by omega) (fun c73 => ?_) (fun c73 => ?_)
        · refine q_goto hc 1036 dL_law_1033 (by decide) ?_
          refine V.widen (k := 79 + 2 * (t + 1)) (n := 8194 + 12 * (t + 1)) (by omega) (by omega) ?_
          refine V.sub [2, 3, 4, 5, 6] rfl ?_
          exact ih nc rc cap us hi pn rl pi ro _ ⟨0, co, di, tr, rw, mt, md, mk, mq, le, va_up fo 0 ((iZ ((tdV w h n nc rc cap us rl a1.toNat : Nat) : Int)).toInt), hq39, hq40, hq41, hq42, hq43, hq44, hq45, hq46, hq47, hq48, hq49, hq50, hq51, hq65, hq52, hq66, hq67, hq68, hq36, hq53, hq54, hq55, hq56, hq57, hq58, hq59, hq60, hq61, hq62, hq63, hq64, hrw⟩ (hG9.mono)
        · exact absurd rfl c73
    · exact absurd rfl c71
  · subst hw9; subst hr9
    refine q_istore hc [(5, .int (iZ ((1 : Nat) : Int))), (0, .ref b), (1, .ref (ad 0)), (2, .ref (ad 66)), (3, .ref (ad 78)), (4, .int (iZ ((3 + 5 * t : Nat) : Int)))] dL_law_991 (by decide) rfl ?_
    refine q_aload_n hc 3 dL_law_993 rfl ?_
    refine q_aload_n hc 1 dL_law_994 rfl ?_
    refine q_iload hc 5 dL_law_995 rfl ?_
    refine q_iconstN hc 1 dL_law_997 rfl ?_
    refine q_iaddN hc dL_law_998 ?_
    refine q_sld (j := 3 + 5 * t + 1) hc hX hbl hbA rfl (by omega) (by omega) dL_law_999 ?_
    refine V.topi (show _ = a1 from ha1) ?_
    refine q_callMi (As := [.int (iZ a1)]) (rest := []) hc (c_X5_told_e1 l D K ws ad w h th nc rc a1 h66 hr1 x0) (cwV 1 hc.1.2.2.2.2 gL_law_X5_told rfl rfl rfl (by decide +kernel) ⟨Nat.le_of_ble_eq_true rfl, Nat.le_of_ble_eq_true rfl⟩) 66 h66 rfl rfl rfl (by decide) dL_law_1000 ⟨(show _ ≤ 601024 by omega), (show _ ≤ 7293000 by omega)⟩ (fun r75 u74 hp' => ?_)
    obtain ⟨hr78, hq76, fr77⟩ := hp'
    have hq79 := (fr77.at 0 (by omega)).trans h0
    have hq80 := (fr77.at 1 (by omega)).trans h1
    have hq81 := (fr77.at 2 (by omega)).trans h2
    have hq82 := (fr77.at 3 (by omega)).trans h3
    have hq83 := (fr77.at 4 (by omega)).trans h4
    have hq84 := (fr77.at 5 (by omega)).trans h5
    have hq85 := (fr77.at 6 (by omega)).trans h6
    have hq86 := (fr77.at 7 (by omega)).trans h7
    have hq87 := (fr77.at 8 (by omega)).trans h8
    have hq88 := (fr77.at 9 (by omega)).trans h9
    have hq89 := (fr77.at 10 (by omega)).trans h10
    have hq90 := (fr77.at 11 (by omega)).trans h11
    have hq91 := (fr77.at 12 (by omega)).trans h12
    have hq92 := (fr77.at 29 (by omega)).trans h29
    have hq93 := (fr77.at 67 (by omega)).trans m67
    have hq94 := (fr77.at 68 (by omega)).trans m68
    have hq95 := (fr77.at 69 (by omega)).trans m69
    have hq96 := (fr77.at 70 (by omega)).trans m70
    have hq97 := (fr77.at 71 (by omega)).trans m71
    have hq98 := (fr77.at 72 (by omega)).trans m72
    have hq99 := (fr77.at 73 (by omega)).trans m73
    have hq100 := (fr77.at 74 (by omega)).trans m74
    have hq101 := (fr77.at 75 (by omega)).trans m75
    have hq102 := (fr77.at 76 (by omega)).trans m76
    have hq103 := (fr77.at 77 (by omega)).trans m77
    have hq104 := (fr77.at 78 (by omega)).trans h78
    have hq105 : ∀ s, s < 16 → u74[13 + s]? = some (ad (13 + s), iN K n (rw s)) := fun s hs => (fr77.at (13 + s) (by omega)).trans (hR s hs)
    have hq106 : ∀ s, s < 12 → u74[30 + 3 * s]? = some (ad (30 + 3 * s), nO ad s (pn s) (rl s)) := fun s hs => (fr77.at (30 + 3 * s) (by omega)).trans (hN s hs)
    have hq107 : ∀ s, s < 12 → u74[31 + 3 * s]? = some (ad (31 + 3 * s), iN K 5 (pi s)) := fun s hs => (fr77.at (31 + 3 * s) (by omega)).trans (hP s hs)
    have hq108 : ∀ s, s < 12 → u74[32 + 3 * s]? = some (ad (32 + 3 * s), zA K (2 * n) (ro s)) := fun s hs => (fr77.at (32 + 3 * s) (by omega)).trans (hO s hs)
    subst hr78
    refine q_istore hc [(6, .int (iZ ((0 : Nat) : Int))), (5, .int (iZ ((1 : Nat) : Int))), (0, .ref b), (1, .ref (ad 0)), (2, .ref (ad 66)), (3, .ref (ad 78)), (4, .int (iZ ((3 + 5 * t : Nat) : Int)))] dL_law_1003 (by decide) rfl ?_
    refine q_aload_n hc 4 dL_law_1005 rfl ?_
    refine q_callPn (As := []) (rest := []) hc (c_X5_thrown l D K u74 ad w h 1 nc rc hq76 ) (cwV 0 hc.1.2.2.2.2 gL_law_X5_thrown rfl rfl rfl (by decide +kernel) ⟨Nat.le_of_ble_eq_true rfl, Nat.le_of_ble_eq_true rfl⟩) 66 hq76 rfl rfl rfl (by decide) dL_law_1006 ⟨(show _ ≤ 601024 by omega), (show _ ≤ 7293000 by omega)⟩ ?_
    refine q_iload hc 1 dL_law_1009 rfl ?_
    refine q_icmpN_eq hc 1016 dL_law_1011 (by decide) (by omega) (by omega) (fun c111 => ?_) (fun c111 => ?_)
    · refine q_iload hc 1 dL_law_1016 rfl ?_
      refine q_if_ne hc 1033 dL_law_1018 (by decide) (by omega) (fun c112 => ?_) (fun c112 => ?_)
      · refine q_goto hc 1036 dL_law_1033 (by decide) ?_
        refine V.widen (k := 79 + 2 * (t + 1)) (n := 8194 + 12 * (t + 1)) (by omega) (by omega) ?_
        refine V.sub [2, 3, 4, 5, 6] rfl ?_
        exact ih nc rc cap us hi pn rl pi ro _ ⟨1, co, di, tr, rw, mt, md, mk, mq, le, fo, hq79, hq80, hq81, hq82, hq83, hq84, hq85, hq86, hq87, hq88, hq89, hq90, hq91, hq105, hq92, hq106, hq107, hq108, hq76, hq93, hq94, hq95, hq96, hq97, hq98, hq99, hq100, hq101, hq102, hq103, hq104, hrw⟩ (hG9.mono)
      · exact absurd c112 (by decide)
    · exact absurd rfl c111
