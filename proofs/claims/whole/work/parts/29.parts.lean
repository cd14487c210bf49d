
set_option maxRecDepth 100000 in
set_option maxHeartbeats 4000000 in
theorem c_X2_fillFromParts (l : Launch) (D : va_G) (K : Nat → ClassId) (ws : va_W) (ad : Nat → Nat) (sv : Nat) (w h n : Nat) (rw : Nat → Nat → Nat) (h1 : ws[1]? = some (ad 1, gO ad w h n)) (h11 : ws[11]? = some (ad 11, tO ad)) (h12 : ws[12]? = some (ad 12, rA K 16 (rF ad))) (hR : ∀ s, s < 16 → ws[13 + s]? = some (ad (13 + s), iN K n (rw s))) (hn : n ≤ 64) (hs : 1 < sv ∧ sv < 16) (hrw : ∀ s k, rw s k ≤ 1000000000) : MMv l yX2_fillFromParts wsX2_fillFromParts ({ frames := 2, cells := 0, slots := 0, locals := 45 }) D K ws [.ref (ad 11), .int (iZ ((sv : Nat) : Int))] (fun u => (u[13 + sv]? = some (ad (13 + sv), iN K n (fpA rw sv (sv - 1)))) ∧ (Fr (fun j => j = 13 + sv) ws u)) := by
  refine q_entMv RX2 [(0, .ref (ad 11)), (1, .int (iZ ((sv : Nat) : Int)))] (by decide) rfl rfl (Nat.le_of_ble_eq_true rfl) rfl ?_
  intro p e s m args below meth c hc hr hlk
  have i2 : ∀ w ∈ u_ws RX2 TX2 2, w ∈ wsX2_fillFromParts := by decide +kernel
  have f23 := hc.1.2.2.2.2 (.fieldLink RX2 23 "GlobalRoutes$LeastTable" "rows" "[[I") (by decide +kernel)
  have k68 : (Jvm.Cond.constant RX2 68 (iZ ((1000000000 : Nat) : Int))).before args s = true := hc.1.2.2.2.2 (.constant RX2 68 (1000000000)) (by decide +kernel)
  have fr0 : Fr (fun j => j = 13 + sv) ws ws := Fr.rfl
  refine q_aload_n hc 0 dX2_fillFromParts_0 rfl ?_
  refine q_get hc 11 1 i2 h11 rfl (by decide) f23 rfl rfl dX2_fillFromParts_1 ?_
  refine q_iload_n hc 1 dX2_fillFromParts_4 rfl ?_
  refine q_rald (j := sv) hc 12 h12 rfl (by omega) (by omega) dX2_fillFromParts_5 ?_
  refine V.topv (show _ = Value.ref (ad (13 + sv)) from rfl) ?_
  refine q_astore_n hc [(2, .ref (ad (13 + sv))), (0, .ref (ad 11)), (1, .int (iZ ((sv : Nat) : Int)))] dX2_fillFromParts_6 rfl (by decide) rfl ?_
  refine q_aload_n hc 0 dX2_fillFromParts_7 rfl ?_
  refine q_ldc (z := ((1000000000 : Nat) : Int)) hc dX2_fillFromParts_8 k68 ?_
  refine V.topi (show _ = ((1000000000 : Nat) : Int) from rfl) ?_
  have hq1 : ws[13 + sv]? = some (ad (13 + sv), iN K n (rw sv)) := hR sv (by omega)
  refine q_callSMv (As := [.ref (ad (13 + sv)), .int (iZ ((1000000000 : Nat) : Int))]) (rest := []) hc (c_J7_fill_53178 l D K ws ad (13 + sv) n ((1000000000 : Nat) : Int) _ hq1 (by omega)) (va_cwS 2 hc.1.2.2.2.2 gX2_fillFromParts_J7_fill_53178 rfl rfl rfl (by decide +kernel) ⟨Nat.le_of_ble_eq_true rfl, Nat.le_of_ble_eq_true rfl⟩) rfl rfl (by decide) dX2_fillFromParts_10 ⟨Nat.zero_le _, Nat.zero_le _⟩ (fun u2 hp' => ?_)
  obtain ⟨hq3, fr4⟩ := hp'
  have hq5 := (fr4.at 1 (by omega)).trans h1
  have hq6 := (fr4.at 11 (by omega)).trans h11
  have hq7 := (fr4.at 12 (by omega)).trans h12
  have hq8 : ∀ s, s < 16 → u2[13 + s]? = some (ad (13 + s), iN K n ((va_up rw sv (fun _ => 1000000000)) s)) := fun s hs => by
    by_cases e9 : s = sv
    · rw [e9]; simp only [va_up_self]; exact hq3
    · have h8 := (fr4.at (13 + s) (by omega)).trans (hR s hs)
      try simp only [va_up_ne _ _ e9] at h8
      simp only [va_up_ne _ _ e9]; exact h8
  refine q_iconstN hc 1 dX2_fillFromParts_13 rfl ?_
  refine q_istore_n hc [(3, .int (iZ ((1 : Nat) : Int))), (2, .ref (ad (13 + sv))), (0, .ref (ad 11)), (1, .int (iZ ((sv : Nat) : Int)))] dX2_fillFromParts_14 rfl (by decide) rfl ?_
  refine V.sub [2, 3, 1, 0] rfl ?_
  refine V.loop (α := Nat × (Nat → Nat)) (fun x => sv - (x.1 + 1)) (fun x u => (x.1 + 1 ≤ sv) ∧ (x.2 = fpA rw sv x.1) ∧ (∀ s, s < 16 → u[13 + s]? = some (ad (13 + s), iN K n ((va_up rw sv x.2) s))) ∧ (Fr (fun j => j = 13 + sv) u2 u)) (fun x => [(0, .ref (ad 11)), (1, .int (iZ ((sv : Nat) : Int))), (2, .ref (ad (13 + sv))), (3, .int (iZ ((x.1 + 1 : Nat) : Int)))]) (0, fun _ => 1000000000) ⟨(by omega), (rfl), (hq8), (Fr.rfl)⟩ rfl ?_
  intro x ih15 u9 hI
  obtain ⟨j, F⟩ := x
  try dsimp only at ih15 hI ⊢
  obtain ⟨hj, hF, hq10, fr11⟩ := hI
  have hq12 := (fr11.at 1 (by omega)).trans hq5
  have hq13 := (fr11.at 11 (by omega)).trans hq6
  have hq14 := (fr11.at 12 (by omega)).trans hq7
  refine q_iload_n hc 3 dX2_fillFromParts_15 rfl ?_
  refine q_iload_n hc 1 dX2_fillFromParts_16 rfl ?_
  refine q_icmpN_ge hc 62 dX2_fillFromParts_17 (by decide) (by omega) (by omega) (fun c15 => ?_) (fun c15 => ?_)
  · obtain rfl : j = sv - 1 := by omega
    subst hF
    have hq16 : u9[13 + sv]? = some (ad (13 + sv), iN K n (fpA rw sv (sv - 1))) := by have h9 := hq10 sv (by omega); simp only [va_up_self] at h9; exact h9
    exact q_vretM hc (⟨hq16, ((fr0.trans fr4 (fun _ _ => by omega)).trans fr11 (fun _ _ => by omega))⟩) hr hlk dX2_fillFromParts_62
  · refine q_iload_n hc 1 dX2_fillFromParts_20 rfl ?_
    refine q_iload_n hc 3 dX2_fillFromParts_21 rfl ?_
    refine q_isubN hc dX2_fillFromParts_22 (by omega) ?_
    refine q_istore hc [(4, .int (iZ ((sv - (j + 1) : Nat) : Int))), (0, .ref (ad 11)), (1, .int (iZ ((sv : Nat) : Int))), (2, .ref (ad (13 + sv))), (3, .int (iZ ((j + 1 : Nat) : Int)))] dX2_fillFromParts_23 (by decide) rfl ?_
    refine q_iload_n hc 4 dX2_fillFromParts_25 rfl ?_
    refine q_iload_n hc 2 dX2_fillFromParts_26 rfl ?_
    refine q_iandW hc dX2_fillFromParts_27 ?_
    refine V.topw (z := (((j + 1) &&& sv : Nat) : Int)) (and5 _ (by omega) _ (by omega)) ?_
    refine q_iload_n hc 4 dX2_fillFromParts_28 rfl ?_
    have ha9 : (j + 1) &&& sv ≤ sv := Nat.and_le_right
    refine q_icmpN_ne hc 56 dX2_fillFromParts_29 (by decide) (by omega) (by omega) (fun c17 => ?_) (fun c17 => ?_)
    · refine q_iincN (q := 4) hc 1 [(3, .int (iZ ((j + 1 + 1 : Nat) : Int))), (4, .int (iZ ((sv - (j + 1) : Nat) : Int))), (0, .ref (ad 11)), (1, .int (iZ ((sv : Nat) : Int))), (2, .ref (ad (13 + sv)))] dX2_fillFromParts_56 rfl rfl (by decide) rfl ?_
      refine q_goto hc 15 dX2_fillFromParts_59 (by decide) ?_
      refine V.sub [2, 3, 4, 0] rfl ?_
      exact ih15 (j + 1, F) _ (by omega) ⟨(by omega), (by rw [fpA_s, if_neg (by omega)]; exact hF), (hq10), (fr11)⟩
    · refine q_iload_n hc 4 dX2_fillFromParts_32 rfl ?_
      refine q_iload hc 0 dX2_fillFromParts_33 rfl ?_
      refine q_icmpN_ge hc 56 dX2_fillFromParts_35 (by decide) (by omega) (by omega) (fun c18 => ?_) (fun c18 => ?_)
      · refine q_iincN (q := 4) hc 1 [(3, .int (iZ ((j + 1 + 1 : Nat) : Int))), (4, .int (iZ ((sv - (j + 1) : Nat) : Int))), (0, .ref (ad 11)), (1, .int (iZ ((sv : Nat) : Int))), (2, .ref (ad (13 + sv)))] dX2_fillFromParts_56 rfl rfl (by decide) rfl ?_
        refine q_goto hc 15 dX2_fillFromParts_59 (by decide) ?_
        refine V.sub [2, 3, 4, 0] rfl ?_
        exact ih15 (j + 1, F) _ (by omega) ⟨(by omega), (by rw [fpA_s, if_neg (by omega)]; exact hF), (hq10), (fr11)⟩
      · refine q_aload_n hc 1 dX2_fillFromParts_38 rfl ?_
        refine q_aload_n hc 3 dX2_fillFromParts_39 rfl ?_
        refine q_aload_n hc 1 dX2_fillFromParts_40 rfl ?_
        refine q_get hc 11 1 i2 hq13 rfl (by decide) f23 rfl rfl dX2_fillFromParts_41 ?_
        refine q_iload_n hc 4 dX2_fillFromParts_44 rfl ?_
        refine q_rald (j := j + 1) hc 12 hq14 rfl (by omega) (by omega) dX2_fillFromParts_45 ?_
        refine V.topv (show _ = Value.ref (ad (13 + (j + 1))) from rfl) ?_
        refine q_aload_n hc 1 dX2_fillFromParts_46 rfl ?_
        refine q_get hc 11 1 i2 hq13 rfl (by decide) f23 rfl rfl dX2_fillFromParts_47 ?_
        refine q_iload hc 0 dX2_fillFromParts_50 rfl ?_
        refine q_rald (j := sv - (j + 1)) hc 12 hq14 rfl (by omega) (by omega) dX2_fillFromParts_52 ?_
        refine V.topv (show _ = Value.ref (ad (13 + (sv - (j + 1)))) from rfl) ?_
        have hq19 : u9[13 + sv]? = some (ad (13 + sv), iN K n F) := by have h9 := hq10 sv (by omega); simp only [va_up_self] at h9; exact h9
        have hq20 : u9[13 + (j + 1)]? = some (ad (13 + (j + 1)), iN K n (rw (j + 1))) := by have h9 := hq10 (j + 1) (by omega); simp only [va_up_ne _ _ (show j + 1 ≠ sv by omega)] at h9; exact h9
        have hq21 : u9[13 + (sv - (j + 1))]? = some (ad (13 + (sv - (j + 1))), iN K n (rw (sv - (j + 1)))) := by have h9 := hq10 (sv - (j + 1)) (by omega); simp only [va_up_ne _ _ (show sv - (j + 1) ≠ sv by omega)] at h9; exact h9
        refine q_callMv (As := [.ref (ad (13 + sv)), .ref (ad (13 + (j + 1))), .ref (ad (13 + (sv - (j + 1))))]) (rest := []) hc (c_X2_takeLower l D K u9 ad (13 + sv) (13 + (j + 1)) (13 + (sv - (j + 1))) w h n F (rw (j + 1)) (rw (sv - (j + 1))) hq12 hq13 hq19 hq20 hq21 hn (by omega) (by omega) (by rw [hF]; exact fpA_bd rw sv j) (hrw _) (hrw _)) (cwV 3 hc.1.2.2.2.2 gX2_fillFromParts_X2_takeLower rfl rfl rfl (by decide +kernel) ⟨Nat.le_of_ble_eq_true rfl, Nat.le_of_ble_eq_true rfl⟩) 11 hq13 rfl rfl rfl (by decide) dX2_fillFromParts_53 ⟨Nat.zero_le _, Nat.zero_le _⟩ (fun u22 hp' => ?_)
        obtain ⟨hq24, fr25⟩ := hp'
        have hq26 := (fr25.at 1 (by omega)).trans hq12
        have hq27 := (fr25.at 11 (by omega)).trans hq13
        have hq28 := (fr25.at 12 (by omega)).trans hq14
        have hq29 : ∀ s, s < 16 → u22[13 + s]? = some (ad (13 + s), iN K n ((va_up rw sv (tkL F (rw (j + 1)) (rw (sv - (j + 1))))) s)) := fun s hs => by
          by_cases e9 : s = sv
          · rw [e9]; simp only [va_up_self]; exact hq24
          · have h8 := (fr25.at (13 + s) (by omega)).trans (hq10 s hs)
            try simp only [va_up_ne _ _ e9] at h8
            simp only [va_up_ne _ _ e9]; exact h8
        refine q_iincN (q := 4) hc 1 [(3, .int (iZ ((j + 1 + 1 : Nat) : Int))), (4, .int (iZ ((sv - (j + 1) : Nat) : Int))), (0, .ref (ad 11)), (1, .int (iZ ((sv : Nat) : Int))), (2, .ref (ad (13 + sv)))] dX2_fillFromParts_56 rfl rfl (by decide) rfl ?_
        refine q_goto hc 15 dX2_fillFromParts_59 (by decide) ?_
        refine V.sub [2, 3, 4, 0] rfl ?_
        exact ih15 (j + 1, tkL F (rw (j + 1)) (rw (sv - (j + 1)))) _ (by omega) ⟨(by omega), (by rw [fpA_s, if_pos ⟨by omega, by omega⟩, hF]), (hq29), ((fr11.trans fr25 (fun _ _ => by omega)))⟩
