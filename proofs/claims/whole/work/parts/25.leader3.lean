
set_option maxRecDepth 100000 in
set_option maxHeartbeats 4000000 in
theorem c_X1_joinTree (l : Launch) (D : va_G) (K : Nat → ClassId) (ws : va_W) (ad : Nat → Nat) (q : Nat) (t : Nat) (w h n : Nat) (di co : Nat → Nat) (tr ro : Nat → Bool) (nb bt : Nat → Option Nat) (h1 : ws[1]? = some (ad 1, gO ad w h n)) (h5 : ws[5]? = some (ad 5, iA K (4 * n) (fun k => oZ (nb k)))) (h6 : ws[6]? = some (ad 6, iA K (4 * n) (fun k => oZ (bt k)))) (h7 : ws[7]? = some (ad 7, lO ad)) (h8 : ws[8]? = some (ad 8, iN K (2 * n) co)) (h9 : ws[9]? = some (ad 9, iN K n di)) (h10 : ws[10]? = some (ad 10, zA K n tr)) (hro : ws[32 + 3 * t]? = some (ad (32 + 3 * t), zA K (2 * n) ro)) (hn : n ≤ 64) (hq : q < n) (hNB : NB n nb bt) (hdi : ∀ k, di k ≤ 1000000000) (hco : ∀ k, k < 2 * n → co k ≤ 6000) : MMv l yX1_joinTree wsX1_joinTree ({ frames := 2, cells := 0, slots := 0, locals := 44 }) D K ws [.ref (ad 7), .int (iZ ((q : Nat) : Int)), .ref (ad (32 + 3 * t))] (fun u => (u[10]? = some (ad 10, zA K n ((wk nb bt di co n tr ro q).1))) ∧ (u[32 + 3 * t]? = some (ad (32 + 3 * t), zA K (2 * n) ((wk nb bt di co n tr ro q).2.1))) ∧ (u[9]? = some (ad 9, iN K n (fun k => if (wk nb bt di co n tr ro q).1 k = true then 0 else di k))) ∧ (Fr (fun j => j = 10 ∨ j = 32 + 3 * t ∨ j = 9) ws u)) := by
  refine q_entMv RX1 [(0, .ref (ad 7)), (1, .int (iZ ((q : Nat) : Int))), (2, .ref (ad (32 + 3 * t)))] (by decide) rfl rfl (Nat.le_of_ble_eq_true rfl) rfl ?_
  intro p e s m args below meth c hc hr hlk
  have i1 : ∀ w ∈ u_ws RX1 TX1 4, w ∈ wsX1_joinTree := by decide +kernel
  have f9 := hc.1.2.2.2.2 (.fieldLink RX1 9 "GlobalRoutes$Leader" "grid" "LGlobalRoutes$Grid;") (by decide +kernel)
  have i0 : ∀ w ∈ u_ws RX0 TX0 9, w ∈ wsX1_joinTree := by decide +kernel
  have f25 := hc.1.2.2.2.2 (.fieldLink RX1 25 "GlobalRoutes$Grid" "cells" "I") (by decide +kernel)
  have f31 := hc.1.2.2.2.2 (.fieldLink RX1 31 "GlobalRoutes$Leader" "tree" "[Z") (by decide +kernel)
  have f28 := hc.1.2.2.2.2 (.fieldLink RX1 28 "GlobalRoutes$Leader" "distances" "[I") (by decide +kernel)
  have f89 := hc.1.2.2.2.2 (.fieldLink RX1 89 "GlobalRoutes$Grid" "bordersTo" "[I") (by decide +kernel)
  have f77 := hc.1.2.2.2.2 (.fieldLink RX1 77 "GlobalRoutes$Grid" "neighbours" "[I") (by decide +kernel)
  have fr0 : Fr (fun j => j = 10 ∨ j = 32 + 3 * t ∨ j = 9) ws ws := Fr.rfl
  refine q_iload_n hc 1 dX1_joinTree_0 rfl ?_
  refine q_istore_n hc [(3, .int (iZ ((q : Nat) : Int))), (0, .ref (ad 7)), (1, .int (iZ ((q : Nat) : Int))), (2, .ref (ad (32 + 3 * t)))] dX1_joinTree_1 rfl (by decide) rfl ?_
  refine q_iconstN hc 0 dX1_joinTree_2 rfl ?_
  refine q_istore hc [(4, .int (iZ ((0 : Nat) : Int))), (3, .int (iZ ((q : Nat) : Int))), (0, .ref (ad 7)), (1, .int (iZ ((q : Nat) : Int))), (2, .ref (ad (32 + 3 * t)))] dX1_joinTree_3 (by decide) rfl ?_
  refine V.sub [2, 3, 4, 1, 0] rfl ?_
  refine V.loop (α := Nat × (Nat → Bool) × (Nat → Bool) × Nat) (fun x => n - x.1) (fun x u => (x.1 ≤ n) ∧ (x.2.2.2 < n) ∧ (wk nb bt di co (n - x.1) x.2.1 x.2.2.1 x.2.2.2 = wk nb bt di co n tr ro q) ∧ (u[10]? = some (ad 10, zA K n x.2.1)) ∧ (u[32 + 3 * t]? = some (ad (32 + 3 * t), zA K (2 * n) x.2.2.1)) ∧ (Fr (fun j => j = 10 ∨ j = 32 + 3 * t) ws u)) (fun x => [(0, .ref (ad 7)), (1, .int (iZ ((q : Nat) : Int))), (2, .ref (ad (32 + 3 * t))), (3, .int (iZ ((x.2.2.2 : Nat) : Int))), (4, .int (iZ ((x.1 : Nat) : Int)))]) (0, tr, ro, q) ⟨(Nat.zero_le _), (hq), (rfl), (h10), (hro), (Fr.rfl)⟩ rfl ?_
  intro x ih5 u1 hI
  obtain ⟨k, T1, R1, c0⟩ := x
  try dsimp only at ih5 hI ⊢
  obtain ⟨hk, hc0, hw9, hq2, hq3, fr4⟩ := hI
  have hq5 := (fr4.at 1 (by omega)).trans h1
  have hq6 := (fr4.at 5 (by omega)).trans h5
  have hq7 := (fr4.at 6 (by omega)).trans h6
  have hq8 := (fr4.at 7 (by omega)).trans h7
  have hq9 := (fr4.at 8 (by omega)).trans h8
  have hq10 := (fr4.at 9 (by omega)).trans h9
  refine q_iload hc 4 dX1_joinTree_5 rfl ?_
  refine q_aload_n hc 0 dX1_joinTree_7 rfl ?_
  refine q_get hc 7 0 i1 hq8 rfl (by decide) f9 rfl rfl dX1_joinTree_8 ?_
  refine q_get hc 1 2 i0 hq5 rfl (by decide) f25 rfl rfl dX1_joinTree_11 ?_
  refine q_icmpN_ge hc 79 dX1_joinTree_14 (by decide) (by omega) (by omega) (fun c11 => ?_) (fun c11 => ?_)
  · have hE : wk nb bt di co n tr ro q = (T1, R1, c0) := by rw [← hw9, show n - k = 0 by omega]; rfl
    refine q_iconstN hc 0 dX1_joinTree_79 rfl ?_
    refine q_istore hc [(4, .int (iZ ((0 : Nat) : Int))), (0, .ref (ad 7)), (1, .int (iZ ((q : Nat) : Int))), (2, .ref (ad (32 + 3 * t))), (3, .int (iZ ((c0 : Nat) : Int)))] dX1_joinTree_80 (by decide) rfl ?_
    refine V.sub [1, 0] rfl ?_
    refine V.loop (α := Nat × (Nat → Nat)) (fun x => n - x.1) (fun x u => (x.1 ≤ n) ∧ (∀ k, x.2 k = if k < x.1 then (if T1 k = true then 0 else di k) else di k) ∧ (u[9]? = some (ad 9, iN K n x.2)) ∧ (Fr (fun j => j = 9) u1 u)) (fun x => [(0, .ref (ad 7)), (4, .int (iZ ((x.1 : Nat) : Int)))]) (0, di) ⟨(Nat.zero_le _), (fun k => by simp), (hq10), (Fr.rfl)⟩ rfl ?_
    intro x ih82 u12 hI
    obtain ⟨i, f⟩ := x
    try dsimp only at ih82 hI ⊢
    obtain ⟨hi0, hf, hq13, fr14⟩ := hI
    have hq15 := (fr14.at 1 (by omega)).trans hq5
    have hq16 := (fr14.at 5 (by omega)).trans hq6
    have hq17 := (fr14.at 6 (by omega)).trans hq7
    have hq18 := (fr14.at 7 (by omega)).trans hq8
    have hq19 := (fr14.at 8 (by omega)).trans hq9
    have hq20 := (fr14.at 10 (by omega)).trans hq2
    have hq21 := (fr14.at (32 + 3 * t) (by omega)).trans hq3
    refine q_iload hc 1 dX1_joinTree_82 rfl ?_
    refine q_aload_n hc 0 dX1_joinTree_84 rfl ?_
    refine q_get hc 7 0 i1 hq18 rfl (by decide) f9 rfl rfl dX1_joinTree_85 ?_
    refine q_get hc 1 2 i0 hq15 rfl (by decide) f25 rfl rfl dX1_joinTree_88 ?_
    refine q_icmpN_ge hc 118 dX1_joinTree_91 (by decide) (by omega) (by omega) (fun c22 => ?_) (fun c22 => ?_)
    · refine q_norm_iN (g := fun k => if (wk nb bt di co n tr ro q).1 k = true then 0 else di k) hc 9 hq13 (fun k9 hk => by rw [hf k9, if_pos (by omega), hE]) (fun u23 hn' hf' => ?_)
      have hq24 : u23[9]? = some (ad 9, iN K n (fun k => if (wk nb bt di co n tr ro q).1 k = true then 0 else di k)) := hn'
      have hq25 := (hf' 1 (by omega)).trans hq15
      have hq26 := (hf' 5 (by omega)).trans hq16
      have hq27 := (hf' 6 (by omega)).trans hq17
      have hq28 := (hf' 7 (by omega)).trans hq18
      have hq29 := (hf' 8 (by omega)).trans hq19
      have hq30 := (hf' 10 (by omega)).trans hq20
      have hq31 := (hf' (32 + 3 * t) (by omega)).trans hq21
      have fr32 := Fr.one hf'
      refine q_norm_zA (g := (wk nb bt di co n tr ro q).1) hc 10 hq30 (fun k9 _ => by rw [hE]) (fun u33 hn' hf' => ?_)
      have hq34 : u33[10]? = some (ad 10, zA K n ((wk nb bt di co n tr ro q).1)) := hn'
      have hq35 := (hf' 1 (by omega)).trans hq25
      have hq36 := (hf' 5 (by omega)).trans hq26
      have hq37 := (hf' 6 (by omega)).trans hq27
      have hq38 := (hf' 7 (by omega)).trans hq28
      have hq39 := (hf' 8 (by omega)).trans hq29
      have hq40 := (hf' 9 (by omega)).trans hq24
      have hq41 := (hf' (32 + 3 * t) (by omega)).trans hq31
      have fr42 := Fr.one hf'
      refine q_norm_zA (g := (wk nb bt di co n tr ro q).2.1) hc (32 + 3 * t) hq41 (fun k9 _ => by rw [hE]) (fun u43 hn' hf' => ?_)
      have hq44 : u43[32 + 3 * t]? = some (ad (32 + 3 * t), zA K (2 * n) ((wk nb bt di co n tr ro q).2.1)) := hn'
      have hq45 := (hf' 1 (by omega)).trans hq35
      have hq46 := (hf' 5 (by omega)).trans hq36
      have hq47 := (hf' 6 (by omega)).trans hq37
      have hq48 := (hf' 7 (by omega)).trans hq38
      have hq49 := (hf' 8 (by omega)).trans hq39
      have hq50 := (hf' 9 (by omega)).trans hq40
      have hq51 := (hf' 10 (by omega)).trans hq34
      have fr52 := Fr.one hf'
      exact q_vretM hc (⟨hq51, hq44, hq50, (((((fr0.trans fr4 (fun _ _ => by omega)).trans fr14 (fun _ _ => by omega)).trans fr32 (fun _ _ => by omega)).trans fr42 (fun _ _ => by omega)).trans fr52 (fun _ _ => by omega))⟩) hr hlk dX1_joinTree_118
    · refine q_aload_n hc 0 dX1_joinTree_94 rfl ?_
      refine q_get hc 7 3 i1 hq18 rfl (by decide) f31 rfl rfl dX1_joinTree_95 ?_
      refine q_iload hc 1 dX1_joinTree_98 rfl ?_
      refine q_zald (j := i) hc 10 hq20 rfl (by omega) (by omega) dX1_joinTree_100 ?_
      refine q_ifz_eq hc 112 dX1_joinTree_101 (by decide) (fun c53 => ?_) (fun c53 => ?_)
      · refine q_iincN (q := 1) hc 1 [(4, .int (iZ ((i + 1 : Nat) : Int))), (0, .ref (ad 7))] dX1_joinTree_112 rfl rfl (by decide) rfl ?_
        refine q_goto hc 82 dX1_joinTree_115 (by decide) ?_
        refine V.sub [1, 0] rfl ?_
        exact ih82 (i + 1, f) _ (by omega) ⟨(by omega), (upd_hf0 hf (if_neg (by rw [c53]; decide))), (hq13), (fr14)⟩
      · refine q_aload_n hc 0 dX1_joinTree_104 rfl ?_
        refine q_get hc 7 2 i1 hq18 rfl (by decide) f28 rfl rfl dX1_joinTree_105 ?_
        refine q_iload hc 1 dX1_joinTree_108 rfl ?_
        refine q_iconstN hc 0 dX1_joinTree_110 rfl ?_
        refine q_iastN (j := i) (x := 0) hc 9 hq13 rfl (by omega) (by omega) dX1_joinTree_111 (fun u54 hn' hf' => ?_)
        have hq55 : u54[9]? = some (ad 9, iN K n (va_up f i 0)) := hn'
        have hq56 := (hf' 1 (by omega)).trans hq15
        have hq57 := (hf' 5 (by omega)).trans hq16
        have hq58 := (hf' 6 (by omega)).trans hq17
        have hq59 := (hf' 7 (by omega)).trans hq18
        have hq60 := (hf' 8 (by omega)).trans hq19
        have hq61 := (hf' 10 (by omega)).trans hq20
        have hq62 := (hf' (32 + 3 * t) (by omega)).trans hq21
        have fr63 := Fr.one hf'
        refine q_iincN (q := 1) hc 1 [(4, .int (iZ ((i + 1 : Nat) : Int))), (0, .ref (ad 7))] dX1_joinTree_112 rfl rfl (by decide) rfl ?_
        refine q_goto hc 82 dX1_joinTree_115 (by decide) ?_
        refine V.sub [1, 0] rfl ?_
        exact ih82 (i + 1, va_up f i 0) _ (by omega) ⟨(by omega), (by have h9 := upd_hf hf; rw [if_pos c53] at h9; exact h9), (hq55), ((fr14.trans fr63 (fun _ _ => by omega)))⟩
  · refine q_aload_n hc 0 dX1_joinTree_17 rfl ?_
    refine q_get hc 7 3 i1 hq8 rfl (by decide) f31 rfl rfl dX1_joinTree_18 ?_
    refine q_iload_n hc 3 dX1_joinTree_21 rfl ?_
    refine q_zald (j := c0) hc 10 hq2 rfl (by omega) (by omega) dX1_joinTree_22 ?_
    refine q_ifz_ne hc 79 dX1_joinTree_23 (by decide) (fun c64 => ?_) (fun c64 => ?_)
    · have hE : wk nb bt di co n tr ro q = (T1, R1, c0) := by rw [← hw9]; exact wk_in c64
      refine q_iconstN hc 0 dX1_joinTree_79 rfl ?_
      refine q_istore hc [(4, .int (iZ ((0 : Nat) : Int))), (0, .ref (ad 7)), (1, .int (iZ ((q : Nat) : Int))), (2, .ref (ad (32 + 3 * t))), (3, .int (iZ ((c0 : Nat) : Int)))] dX1_joinTree_80 (by decide) rfl ?_
      refine V.sub [1, 0] rfl ?_
      refine V.loop (α := Nat × (Nat → Nat)) (fun x => n - x.1) (fun x u => (x.1 ≤ n) ∧ (∀ k, x.2 k = if k < x.1 then (if T1 k = true then 0 else di k) else di k) ∧ (u[9]? = some (ad 9, iN K n x.2)) ∧ (Fr (fun j => j = 9) u1 u)) (fun x => [(0, .ref (ad 7)), (4, .int (iZ ((x.1 : Nat) : Int)))]) (0, di) ⟨(Nat.zero_le _), (fun k => by simp), (hq10), (Fr.rfl)⟩ rfl ?_
      intro x ih82 u65 hI
      obtain ⟨i, f⟩ := x
      try dsimp only at ih82 hI ⊢
      obtain ⟨hi0, hf, hq66, fr67⟩ := hI
      have hq68 := (fr67.at 1 (by omega)).trans hq5
      have hq69 := (fr67.at 5 (by omega)).trans hq6
      have hq70 := (fr67.at 6 (by omega)).trans hq7
      have hq71 := (fr67.at 7 (by omega)).trans hq8
      have hq72 := (fr67.at 8 (by omega)).trans hq9
      have hq73 := (fr67.at 10 (by omega)).trans hq2
      have hq74 := (fr67.at (32 + 3 * t) (by omega)).trans hq3
      refine q_iload hc 1 dX1_joinTree_82 rfl ?_
      refine q_aload_n hc 0 dX1_joinTree_84 rfl ?_
      refine q_get hc 7 0 i1 hq71 rfl (by decide) f9 rfl rfl dX1_joinTree_85 ?_
      refine q_get hc 1 2 i0 hq68 rfl (by decide) f25 rfl rfl dX1_joinTree_88 ?_
      refine q_icmpN_ge hc 118 dX1_joinTree_91 (by decide) (by omega) (by omega) (fun c75 => ?_) (fun c75 => ?_)
      · refine q_norm_iN (g := fun k => if (wk nb bt di co n tr ro q).1 k = true then 0 else di k) hc 9 hq66 (fun k9 hk => by rw [hf k9, if_pos (by omega), hE]) (fun u76 hn' hf' => ?_)
        have hq77 : u76[9]? = some (ad 9, iN K n (fun k => if (wk nb bt di co n tr ro q).1 k = true then 0 else di k)) := hn'
        have hq78 := (hf' 1 (by omega)).trans hq68
        have hq79 := (hf' 5 (by omega)).trans hq69
        have hq80 := (hf' 6 (by omega)).trans hq70
        have hq81 := (hf' 7 (by omega)).trans hq71
        have hq82 := (hf' 8 (by omega)).trans hq72
        have hq83 := (hf' 10 (by omega)).trans hq73
        have hq84 := (hf' (32 + 3 * t) (by omega)).trans hq74
        have fr85 := Fr.one hf'
        refine q_norm_zA (g := (wk nb bt di co n tr ro q).1) hc 10 hq83 (fun k9 _ => by rw [hE]) (fun u86 hn' hf' => ?_)
        have hq87 : u86[10]? = some (ad 10, zA K n ((wk nb bt di co n tr ro q).1)) := hn'
        have hq88 := (hf' 1 (by omega)).trans hq78
        have hq89 := (hf' 5 (by omega)).trans hq79
        have hq90 := (hf' 6 (by omega)).trans hq80
        have hq91 := (hf' 7 (by omega)).trans hq81
        have hq92 := (hf' 8 (by omega)).trans hq82
        have hq93 := (hf' 9 (by omega)).trans hq77
        have hq94 := (hf' (32 + 3 * t) (by omega)).trans hq84
        have fr95 := Fr.one hf'
        refine q_norm_zA (g := (wk nb bt di co n tr ro q).2.1) hc (32 + 3 * t) hq94 (fun k9 _ => by rw [hE]) (fun u96 hn' hf' => ?_)
        have hq97 : u96[32 + 3 * t]? = some (ad (32 + 3 * t), zA K (2 * n) ((wk nb bt di co n tr ro q).2.1)) := hn'
        have hq98 := (hf' 1 (by omega)).trans hq88
        have hq99 := (hf' 5 (by omega)).trans hq89
        have hq100 := (hf' 6 (by omega)).trans hq90
        have hq101 := (hf' 7 (by omega)).trans hq91
        have hq102 := (hf' 8 (by omega)).trans hq92
        have hq103 := (hf' 9 (by omega)).trans hq93
        have hq104 := (hf' 10 (by omega)).trans hq87
        have fr105 := Fr.one hf'
        exact q_vretM hc (⟨hq104, hq97, hq103, (((((fr0.trans fr4 (fun _ _ => by omega)).trans fr67 (fun _ _ => by omega)).trans fr85 (fun _ _ => by omega)).trans fr95 (fun _ _ => by omega)).trans fr105 (fun _ _ => by omega))⟩) hr hlk dX1_joinTree_118
      · refine q_aload_n hc 0 dX1_joinTree_94 rfl ?_
        refine q_get hc 7 3 i1 hq71 rfl (by decide) f31 rfl rfl dX1_joinTree_95 ?_
        refine q_iload hc 1 dX1_joinTree_98 rfl ?_
        refine q_zald (j := i) hc 10 hq73 rfl (by omega) (by omega) dX1_joinTree_100 ?_
        refine q_ifz_eq hc 112 dX1_joinTree_101 (by decide) (fun c106 => ?_) (fun c106 => ?_)
        · refine q_iincN (q := 1) hc 1 [(4, .int (iZ ((i + 1 : Nat) : Int))), (0, .ref (ad 7))] dX1_joinTree_112 rfl rfl (by decide) rfl ?_
          refine q_goto hc 82 dX1_joinTree_115 (by decide) ?_
          refine V.sub [1, 0] rfl ?_
          exact ih82 (i + 1, f) _ (by omega) ⟨(by omega), (upd_hf0 hf (if_neg (by rw [c106]; decide))), (hq66), (fr67)⟩
        · refine q_aload_n hc 0 dX1_joinTree_104 rfl ?_
          refine q_get hc 7 2 i1 hq71 rfl (by decide) f28 rfl rfl dX1_joinTree_105 ?_
          refine q_iload hc 1 dX1_joinTree_108 rfl ?_
          refine q_iconstN hc 0 dX1_joinTree_110 rfl ?_
          refine q_iastN (j := i) (x := 0) hc 9 hq66 rfl (by omega) (by omega) dX1_joinTree_111 (fun u107 hn' hf' => ?_)
          have hq108 : u107[9]? = some (ad 9, iN K n (va_up f i 0)) := hn'
          have hq109 := (hf' 1 (by omega)).trans hq68
          have hq110 := (hf' 5 (by omega)).trans hq69
          have hq111 := (hf' 6 (by omega)).trans hq70
          have hq112 := (hf' 7 (by omega)).trans hq71
          have hq113 := (hf' 8 (by omega)).trans hq72
          have hq114 := (hf' 10 (by omega)).trans hq73
          have hq115 := (hf' (32 + 3 * t) (by omega)).trans hq74
          have fr116 := Fr.one hf'
          refine q_iincN (q := 1) hc 1 [(4, .int (iZ ((i + 1 : Nat) : Int))), (0, .ref (ad 7))] dX1_joinTree_112 rfl rfl (by decide) rfl ?_
          refine q_goto hc 82 dX1_joinTree_115 (by decide) ?_
          refine V.sub [1, 0] rfl ?_
          exact ih82 (i + 1, va_up f i 0) _ (by omega) ⟨(by omega), (by have h9 := upd_hf hf; rw [if_pos c106] at h9; exact h9), (hq108), ((fr67.trans fr116 (fun _ _ => by omega)))⟩
    · refine q_aload_n hc 0 dX1_joinTree_26 rfl ?_
      refine q_iload_n hc 3 dX1_joinTree_27 rfl ?_
      refine q_callPi (As := [.int (iZ ((c0 : Nat) : Int))]) (rest := []) hc (c_X1_stepToTree l D K u1 ad c0 w h n di co _ _ hq5 hq6 hq7 hq8 hq9 hq10 hn (by omega) hNB hdi hco) (cwV 1 hc.1.2.2.2.2 gX1_joinTree_X1_stepToTree rfl rfl rfl (by decide +kernel) ⟨Nat.le_of_ble_eq_true rfl, Nat.le_of_ble_eq_true rfl⟩) 7 hq8 rfl rfl rfl (by decide) dX1_joinTree_28 ⟨Nat.zero_le _, Nat.zero_le _⟩ ?_
      refine q_istore hc [(5, .int (iZ (oZ (stp nb bt di co c0 4)))), (0, .ref (ad 7)), (1, .int (iZ ((q : Nat) : Int))), (2, .ref (ad (32 + 3 * t))), (3, .int (iZ ((c0 : Nat) : Int))), (4, .int (iZ ((k : Nat) : Int)))] dX1_joinTree_31 (by decide) rfl ?_
      refine q_iload hc 0 dX1_joinTree_33 rfl ?_
      rcases hs : stp nb bt di co c0 4 with _ | sk
      · refine V.topi (show _ = -1 from rfl) ?_
        refine q_iconst hc dX1_joinTree_35 ?_
        refine q_icmp_ne hc 42 dX1_joinTree_36 (by decide) (by omega) (by omega) (fun c119 => ?_) (fun c119 => ?_)
        · exact absurd rfl c119
        · refine q_goto hc 79 dX1_joinTree_39 (by decide) ?_
          have hE : wk nb bt di co n tr ro q = (T1, R1, c0) := by rw [← hw9]; exact wk_stop hs
          refine q_iconstN hc 0 dX1_joinTree_79 rfl ?_
          refine q_istore hc [(4, .int (iZ ((0 : Nat) : Int))), (5, .int (iZ (oZ (none)))), (0, .ref (ad 7)), (1, .int (iZ ((q : Nat) : Int))), (2, .ref (ad (32 + 3 * t))), (3, .int (iZ ((c0 : Nat) : Int)))] dX1_joinTree_80 (by decide) rfl ?_
          refine V.sub [2, 0] rfl ?_
          refine V.loop (α := Nat × (Nat → Nat)) (fun x => n - x.1) (fun x u => (x.1 ≤ n) ∧ (∀ k, x.2 k = if k < x.1 then (if T1 k = true then 0 else di k) else di k) ∧ (u[9]? = some (ad 9, iN K n x.2)) ∧ (Fr (fun j => j = 9) u1 u)) (fun x => [(0, .ref (ad 7)), (4, .int (iZ ((x.1 : Nat) : Int)))]) (0, di) ⟨(Nat.zero_le _), (fun k => by simp), (hq10), (Fr.rfl)⟩ rfl ?_
          intro x ih82 u120 hI
          obtain ⟨i, f⟩ := x
          try dsimp only at ih82 hI ⊢
          obtain ⟨hi0, hf, hq121, fr122⟩ := hI
          have hq123 := (fr122.at 1 (by omega)).trans hq5
          have hq124 := (fr122.at 5 (by omega)).trans hq6
          have hq125 := (fr122.at 6 (by omega)).trans hq7
          have hq126 := (fr122.at 7 (by omega)).trans hq8
          have hq127 := (fr122.at 8 (by omega)).trans hq9
          have hq128 := (fr122.at 10 (by omega)).trans hq2
          have hq129 := (fr122.at (32 + 3 * t) (by omega)).trans hq3
          refine q_iload hc 1 dX1_joinTree_82 rfl ?_
          refine q_aload_n hc 0 dX1_joinTree_84 rfl ?_
          refine q_get hc 7 0 i1 hq126 rfl (by decide) f9 rfl rfl dX1_joinTree_85 ?_
          refine q_get hc 1 2 i0 hq123 rfl (by decide) f25 rfl rfl dX1_joinTree_88 ?_
          refine q_icmpN_ge hc 118 dX1_joinTree_91 (by decide) (by omega) (by omega) (fun c130 => ?_) (fun c130 => ?_)
          · refine q_norm_iN (g := fun k => if (wk nb bt di co n tr ro q).1 k = true then 0 else di k) hc 9 hq121 (fun k9 hk => by rw [hf k9, if_pos (by omega), hE]) (fun u131 hn' hf' => ?_)
            have hq132 : u131[9]? = some (ad 9, iN K n (fun k => if (wk nb bt di co n tr ro q).1 k = true then 0 else di k)) := hn'
            have hq133 := (hf' 1 (by omega)).trans hq123
            have hq134 := (hf' 5 (by omega)).trans hq124
            have hq135 := (hf' 6 (by omega)).trans hq125
            have hq136 := (hf' 7 (by omega)).trans hq126
            have hq137 := (hf' 8 (by omega)).trans hq127
            have hq138 := (hf' 10 (by omega)).trans hq128
            have hq139 := (hf' (32 + 3 * t) (by omega)).trans hq129
            have fr140 := Fr.one hf'
            refine q_norm_zA (g := (wk nb bt di co n tr ro q).1) hc 10 hq138 (fun k9 _ => by rw [hE]) (fun u141 hn' hf' => ?_)
            have hq142 : u141[10]? = some (ad 10, zA K n ((wk nb bt di co n tr ro q).1)) := hn'
            have hq143 := (hf' 1 (by omega)).trans hq133
            have hq144 := (hf' 5 (by omega)).trans hq134
            have hq145 := (hf' 6 (by omega)).trans hq135
            have hq146 := (hf' 7 (by omega)).trans hq136
            have hq147 := (hf' 8 (by omega)).trans hq137
            have hq148 := (hf' 9 (by omega)).trans hq132
            have hq149 := (hf' (32 + 3 * t) (by omega)).trans hq139
            have fr150 := Fr.one hf'
            refine q_norm_zA (g := (wk nb bt di co n tr ro q).2.1) hc (32 + 3 * t) hq149 (fun k9 _ => by rw [hE]) (fun u151 hn' hf' => ?_)
            have hq152 : u151[32 + 3 * t]? = some (ad (32 + 3 * t), zA K (2 * n) ((wk nb bt di co n tr ro q).2.1)) := hn'
            have hq153 := (hf' 1 (by omega)).trans hq143
            have hq154 := (hf' 5 (by omega)).trans hq144
            have hq155 := (hf' 6 (by omega)).trans hq145
            have hq156 := (hf' 7 (by omega)).trans hq146
            have hq157 := (hf' 8 (by omega)).trans hq147
            have hq158 := (hf' 9 (by omega)).trans hq148
            have hq159 := (hf' 10 (by omega)).trans hq142
            have fr160 := Fr.one hf'
            exact q_vretM hc (⟨hq159, hq152, hq158, (((((fr0.trans fr4 (fun _ _ => by omega)).trans fr122 (fun _ _ => by omega)).trans fr140 (fun _ _ => by omega)).trans fr150 (fun _ _ => by omega)).trans fr160 (fun _ _ => by omega))⟩) hr hlk dX1_joinTree_118
          · refine q_aload_n hc 0 dX1_joinTree_94 rfl ?_
            refine q_get hc 7 3 i1 hq126 rfl (by decide) f31 rfl rfl dX1_joinTree_95 ?_
            refine q_iload hc 1 dX1_joinTree_98 rfl ?_
            refine q_zald (j := i) hc 10 hq128 rfl (by omega) (by omega) dX1_joinTree_100 ?_
            refine q_ifz_eq hc 112 dX1_joinTree_101 (by decide) (fun c161 => ?_) (fun c161 => ?_)
            · refine q_iincN (q := 1) hc 1 [(4, .int (iZ ((i + 1 : Nat) : Int))), (0, .ref (ad 7))] dX1_joinTree_112 rfl rfl (by decide) rfl ?_
              refine q_goto hc 82 dX1_joinTree_115 (by decide) ?_
              refine V.sub [1, 0] rfl ?_
              exact ih82 (i + 1, f) _ (by omega) ⟨(by omega), (upd_hf0 hf (if_neg (by rw [c161]; decide))), (hq121), (fr122)⟩
            · refine q_aload_n hc 0 dX1_joinTree_104 rfl ?_
              refine q_get hc 7 2 i1 hq126 rfl (by decide) f28 rfl rfl dX1_joinTree_105 ?_
              refine q_iload hc 1 dX1_joinTree_108 rfl ?_
              refine q_iconstN hc 0 dX1_joinTree_110 rfl ?_
              refine q_iastN (j := i) (x := 0) hc 9 hq121 rfl (by omega) (by omega) dX1_joinTree_111 (fun u162 hn' hf' => ?_)
              have hq163 : u162[9]? = some (ad 9, iN K n (va_up f i 0)) := hn'
              have hq164 := (hf' 1 (by omega)).trans hq123
              have hq165 := (hf' 5 (by omega)).trans hq124
              have hq166 := (hf' 6 (by omega)).trans hq125
              have hq167 := (hf' 7 (by omega)).trans hq126
              have hq168 := (hf' 8 (by omega)).trans hq127
              have hq169 := (hf' 10 (by omega)).trans hq128
              have hq170 := (hf' (32 + 3 * t) (by omega)).trans hq129
              have fr171 := Fr.one hf'
              refine q_iincN (q := 1) hc 1 [(4, .int (iZ ((i + 1 : Nat) : Int))), (0, .ref (ad 7))] dX1_joinTree_112 rfl rfl (by decide) rfl ?_
              refine q_goto hc 82 dX1_joinTree_115 (by decide) ?_
              refine V.sub [1, 0] rfl ?_
              exact ih82 (i + 1, va_up f i 0) _ (by omega) ⟨(by omega), (by have h9 := upd_hf hf; rw [if_pos c161] at h9; exact h9), (hq163), ((fr122.trans fr171 (fun _ _ => by omega)))⟩
      · refine V.topi (show _ = ((sk : Nat) : Int) from rfl) ?_
        refine V.lve (show ([(5, .int (iZ (oZ ((some sk))))), (0, .ref (ad 7)), (1, .int (iZ ((q : Nat) : Int))), (2, .ref (ad (32 + 3 * t))), (3, .int (iZ ((c0 : Nat) : Int))), (4, .int (iZ ((k : Nat) : Int)))] : List (Nat × Value)) = [(5, .int (iZ ((sk : Nat) : Int))), (0, .ref (ad 7)), (1, .int (iZ ((q : Nat) : Int))), (2, .ref (ad (32 + 3 * t))), (3, .int (iZ ((c0 : Nat) : Int))), (4, .int (iZ ((k : Nat) : Int)))] from by rw [show (oZ ((some sk)) : Int) = ((sk : Nat) : Int) from rfl]) ?_
        have hs4 := stp_of 4 hs
        obtain ⟨u, b, hu, hb, hu1, hb1⟩ : ∃ u b, nb sk = some u ∧ bt sk = some b ∧ u < n ∧ b < 2 * n := by
          rcases hNB sk with h9 | h9
          · rw [dth_none h9] at hs4; exact absurd hs4.2.2 (by intro h; cases h)
          · exact h9
        refine q_iconst hc dX1_joinTree_35 ?_
        refine q_icmp_ne hc 42 dX1_joinTree_36 (by decide) (by omega) (by omega) (fun c172 => ?_) (fun c172 => ?_)
        · refine q_aload_n hc 1 dX1_joinTree_42 rfl ?_
          refine q_get hc 7 3 i1 hq8 rfl (by decide) f31 rfl rfl dX1_joinTree_43 ?_
          refine q_iload_n hc 4 dX1_joinTree_46 rfl ?_
          refine q_iconstN hc 1 dX1_joinTree_47 rfl ?_
          refine q_zast (j := c0) (x := true) hc 10 hq2 rfl (by omega) (by omega) dX1_joinTree_48 (fun u173 hn' hf' => ?_)
          have hq174 : u173[10]? = some (ad 10, zA K n (va_up T1 c0 true)) := hn'
          have hq175 := (hf' 1 (by omega)).trans hq5
          have hq176 := (hf' 5 (by omega)).trans hq6
          have hq177 := (hf' 6 (by omega)).trans hq7
          have hq178 := (hf' 7 (by omega)).trans hq8
          have hq179 := (hf' 8 (by omega)).trans hq9
          have hq180 := (hf' 9 (by omega)).trans hq10
          have hq181 := (hf' (32 + 3 * t) (by omega)).trans hq3
          have fr182 := Fr.one hf'
          refine q_aload_n hc 3 dX1_joinTree_49 rfl ?_
          refine q_aload_n hc 1 dX1_joinTree_50 rfl ?_
          refine q_get hc 7 0 i1 hq178 rfl (by decide) f9 rfl rfl dX1_joinTree_51 ?_
          refine q_get hc 1 8 i0 hq175 rfl (by decide) f89 rfl rfl dX1_joinTree_54 ?_
          refine q_iload hc 0 dX1_joinTree_57 rfl ?_
          refine q_iald (j := sk) hc 6 hq177 rfl (by omega) (by omega) dX1_joinTree_59 ?_
          refine V.topi (show _ = ((b : Nat) : Int) from by show oZ (bt sk) = _; rw [hb]; rfl) ?_
          refine q_iconstN hc 1 dX1_joinTree_60 rfl ?_
          refine q_zast (j := b) (x := true) hc (32 + 3 * t) hq181 rfl (by omega) (by omega) dX1_joinTree_61 (fun u183 hn' hf' => ?_)
          have hq184 : u183[32 + 3 * t]? = some (ad (32 + 3 * t), zA K (2 * n) (va_up R1 b true)) := hn'
          have hq185 := (hf' 1 (by omega)).trans hq175
          have hq186 := (hf' 5 (by omega)).trans hq176
          have hq187 := (hf' 6 (by omega)).trans hq177
          have hq188 := (hf' 7 (by omega)).trans hq178
          have hq189 := (hf' 8 (by omega)).trans hq179
          have hq190 := (hf' 9 (by omega)).trans hq180
          have hq191 := (hf' 10 (by omega)).trans hq174
          have fr192 := Fr.one hf'
          refine q_aload_n hc 1 dX1_joinTree_62 rfl ?_
          refine q_get hc 7 0 i1 hq188 rfl (by decide) f9 rfl rfl dX1_joinTree_63 ?_
          refine q_get hc 1 7 i0 hq185 rfl (by decide) f77 rfl rfl dX1_joinTree_66 ?_
          refine q_iload hc 0 dX1_joinTree_69 rfl ?_
          refine q_iald (j := sk) hc 5 hq186 rfl (by omega) (by omega) dX1_joinTree_71 ?_
          refine V.topi (show _ = ((u : Nat) : Int) from by show oZ (nb sk) = _; rw [hu]; rfl) ?_
          refine q_istore_n hc [(3, .int (iZ ((u : Nat) : Int))), (5, .int (iZ ((sk : Nat) : Int))), (0, .ref (ad 7)), (1, .int (iZ ((q : Nat) : Int))), (2, .ref (ad (32 + 3 * t))), (4, .int (iZ ((k : Nat) : Int)))] dX1_joinTree_72 rfl (by decide) rfl ?_
          refine q_iincN (q := 5) hc 1 [(4, .int (iZ ((k + 1 : Nat) : Int))), (3, .int (iZ ((u : Nat) : Int))), (5, .int (iZ ((sk : Nat) : Int))), (0, .ref (ad 7)), (1, .int (iZ ((q : Nat) : Int))), (2, .ref (ad (32 + 3 * t)))] dX1_joinTree_73 rfl rfl (by decide) rfl ?_
          refine q_goto hc 5 dX1_joinTree_76 (by decide) ?_
          refine V.sub [3, 4, 5, 1, 0] rfl ?_
          exact ih5 (k + 1, va_up T1 c0 true, va_up R1 b true, u) _ (by omega) ⟨(by omega), (hu1), (by rw [← hw9, show n - k = (n - (k + 1)) + 1 by omega, wk_go c64 hs hu hb]), (hq191), (hq184), (((fr4.trans fr182 (fun _ _ => by omega)).trans fr192 (fun _ _ => by omega)))⟩
        · exact absurd c172 (by omega)

set_option maxRecDepth 100000 in
set_option maxHeartbeats 4000000 in
theorem c_X1_measure (l : Launch) (D : va_G) (K : Nat → ClassId) (ws : va_W) (ad : Nat → Nat) (t : Nat) (pn : Nat) (rl : Int) (w h n : Nat) (co : Nat → Nat) (ro : Nat → Bool) (h1 : ws[1]? = some (ad 1, gO ad w h n)) (h7 : ws[7]? = some (ad 7, lO ad)) (h8 : ws[8]? = some (ad 8, iN K (2 * n) co)) (hno : ws[30 + 3 * t]? = some (ad (30 + 3 * t), nO ad t pn rl)) (hro : ws[32 + 3 * t]? = some (ad (32 + 3 * t), zA K (2 * n) ro)) (hn : n ≤ 64) (hco : ∀ k, k < 2 * n → co k ≤ 6000) : MMl l yX1_measure wsX1_measure ({ frames := 0, cells := 0, slots := 0, locals := 0 }) D K ws [.ref (ad 7), .ref (ad (30 + 3 * t))] (fun r u => (r = (jZ ((sm (fun k => if ro k = true then co k else 0) (2 * n) : Nat) : Int))) ∧ (u[30 + 3 * t]? = some (ad (30 + 3 * t), nO ad t pn ((cnt ro (2 * n) : Nat) : Int))) ∧ (Fr (fun j => j = 30 + 3 * t) ws u)) := by
  refine q_entMl RX1 [(0, .ref (ad 7)), (1, .ref (ad (30 + 3 * t)))] (by decide) rfl rfl (Nat.le_of_ble_eq_true rfl) rfl ?_
  intro p e s m args below meth c hc hr hlk
  have i1 : ∀ w ∈ u_ws RX1 TX1 4, w ∈ wsX1_measure := by decide +kernel
  have f9 := hc.1.2.2.2.2 (.fieldLink RX1 9 "GlobalRoutes$Leader" "grid" "LGlobalRoutes$Grid;") (by decide +kernel)
  have i0 : ∀ w ∈ u_ws RX0 TX0 9, w ∈ wsX1_measure := by decide +kernel
  have f15 := hc.1.2.2.2.2 (.fieldLink RX1 15 "GlobalRoutes$Grid" "borders" "I") (by decide +kernel)
  have i3 : ∀ w ∈ u_ws RX3 TX3 4, w ∈ wsX1_measure := by decide +kernel
  have f95 := hc.1.2.2.2.2 (.fieldLink RX1 95 "GlobalRoutes$Net" "routeLength" "I") (by decide +kernel)
  have f57 := hc.1.2.2.2.2 (.fieldLink RX1 57 "GlobalRoutes$Net" "route" "[Z") (by decide +kernel)
  have f21 := hc.1.2.2.2.2 (.fieldLink RX1 21 "GlobalRoutes$Leader" "costs" "[I") (by decide +kernel)
  have fr0 : Fr (fun j => j = 30 + 3 * t) ws ws := Fr.rfl
  refine q_lconst (z := 0) hc dX1_measure_0 (by decide +kernel) ?_
  refine q_lstore_n hc [(2, .long (jZ 0)), (0, .ref (ad 7)), (1, .ref (ad (30 + 3 * t)))] dX1_measure_1 rfl (by decide) rfl ?_
  refine q_iconstN hc 0 dX1_measure_2 rfl ?_
  refine q_istore hc [(4, .int (iZ ((0 : Nat) : Int))), (2, .long (jZ 0)), (0, .ref (ad 7)), (1, .ref (ad (30 + 3 * t)))] dX1_measure_3 (by decide) rfl ?_
  refine q_iconstN hc 0 dX1_measure_5 rfl ?_
  refine q_istore hc [(5, .int (iZ ((0 : Nat) : Int))), (4, .int (iZ ((0 : Nat) : Int))), (2, .long (jZ 0)), (0, .ref (ad 7)), (1, .ref (ad (30 + 3 * t)))] dX1_measure_6 (by decide) rfl ?_
  refine V.sub [3, 4, 2, 1, 0] rfl ?_
  refine V.loopP (α := Nat × Nat × Nat) (fun x => 2 * n - x.1) (fun x => (x.1 ≤ 2 * n) ∧ (x.2.1 = sm (fun k => if ro k = true then co k else 0) x.1) ∧ (x.2.2 = cnt ro x.1)) (fun x => [(0, .ref (ad 7)), (1, .ref (ad (30 + 3 * t))), (2, .long (jZ ((x.2.1 : Nat) : Int))), (4, .int (iZ ((x.2.2 : Nat) : Int))), (5, .int (iZ ((x.1 : Nat) : Int)))]) (0, 0, 0) ⟨(Nat.zero_le _), (rfl), (rfl)⟩ rfl ?_
  intro x ih8 hI
  obtain ⟨i, a, b0⟩ := x
  try dsimp only at ih8 hI ⊢
  obtain ⟨hi0, ha, hb0⟩ := hI
  refine q_iload hc 4 dX1_measure_8 rfl ?_
  refine q_aload_n hc 0 dX1_measure_10 rfl ?_
  refine q_get hc 7 0 i1 h7 rfl (by decide) f9 rfl rfl dX1_measure_11 ?_
  refine q_get hc 1 3 i0 h1 rfl (by decide) f15 rfl rfl dX1_measure_14 ?_
  refine q_icmpN_ge hc 50 dX1_measure_17 (by decide) (by omega) (by omega) (fun c2 => ?_) (fun c2 => ?_)
  · obtain rfl : i = 2 * n := by omega
    subst ha
    subst hb0
    refine q_aload_n hc 1 dX1_measure_50 rfl ?_
    refine q_iload hc 3 dX1_measure_51 rfl ?_
    refine q_put (ty := .int) hc (30 + 3 * t) 3 i3 tyX3 tyX3_ok nmX3 hno rfl (by decide) f95 rfl rfl (by decide +kernel) rfl rfl (Nat.le_of_ble_eq_true rfl) rfl dX1_measure_53 (fun u3 hn' hf' => ?_)
    have hq4 : u3[30 + 3 * t]? = some (ad (30 + 3 * t), .inr (3, [.ref (ad (31 + 3 * t)), .ref (ad (32 + 3 * t)), .int (iZ ((pn : Nat) : Int)), .int (iZ (((cnt ro (2 * n)) : Nat) : Int))])) := hn'
    have hq5 := (hf' 1 (by omega)).trans h1
    have hq6 := (hf' 7 (by omega)).trans h7
    have hq7 := (hf' 8 (by omega)).trans h8
    have hq8 := (hf' (32 + 3 * t) (by omega)).trans hro
    have fr9 := Fr.one hf'
    refine q_lload_n hc 2 dX1_measure_56 rfl ?_
    exact q_lretM (z := (((sm (fun k => if ro k = true then co k else 0) (2 * n)) : Nat) : Int)) hc (⟨rfl, hq4, (fr0.trans fr9 (fun _ _ => by omega))⟩) hr hlk dX1_measure_57
  · refine q_aload_n hc 1 dX1_measure_20 rfl ?_
    refine q_get hc (30 + 3 * t) 1 i3 hno rfl (by decide) f57 rfl rfl dX1_measure_21 ?_
    refine q_iload hc 4 dX1_measure_24 rfl ?_
    refine q_zald (j := i) hc (32 + 3 * t) hro rfl (by omega) (by omega) dX1_measure_26 ?_
    refine q_ifz_eq hc 44 dX1_measure_27 (by decide) (fun c10 => ?_) (fun c10 => ?_)
    · refine q_iincN (q := 4) hc 1 [(5, .int (iZ ((i + 1 : Nat) : Int))), (0, .ref (ad 7)), (1, .ref (ad (30 + 3 * t))), (2, .long (jZ ((a : Nat) : Int))), (4, .int (iZ ((b0 : Nat) : Int)))] dX1_measure_44 rfl rfl (by decide) rfl ?_
      refine q_goto hc 8 dX1_measure_47 (by decide) ?_
      refine V.sub [1, 2, 3, 4, 0] rfl ?_
      exact ih8 (i + 1, a, b0) (by omega) ⟨(by omega), (by rw [sm_s, if_neg (by rw [c10]; decide)]; exact ha), (by rw [cnt_s, if_neg (by rw [c10]; decide)]; exact hb0)⟩
    · refine q_lload_n hc 2 dX1_measure_30 rfl ?_
      refine q_aload_n hc 0 dX1_measure_31 rfl ?_
      refine q_get hc 7 1 i1 h7 rfl (by decide) f21 rfl rfl dX1_measure_32 ?_
      refine q_iload hc 4 dX1_measure_35 rfl ?_
      refine q_ialdN (j := i) hc 8 h8 rfl (by omega) (by omega) dX1_measure_37 ?_
      have hb11 := hco i (by omega)
      refine q_i2l hc dX1_measure_38 (by omega) ?_
      refine q_ladd hc dX1_measure_39 ?_
      refine V.topj (show _ = ((a + co i : Nat) : Int) from by omega) ?_
      refine q_lstore_n hc [(2, .long (jZ ((a + co i : Nat) : Int))), (0, .ref (ad 7)), (1, .ref (ad (30 + 3 * t))), (4, .int (iZ ((b0 : Nat) : Int))), (5, .int (iZ ((i : Nat) : Int)))] dX1_measure_40 rfl (by decide) rfl ?_
      refine q_iincN (q := 3) hc 1 [(4, .int (iZ ((b0 + 1 : Nat) : Int))), (2, .long (jZ ((a + co i : Nat) : Int))), (0, .ref (ad 7)), (1, .ref (ad (30 + 3 * t))), (5, .int (iZ ((i : Nat) : Int)))] dX1_measure_41 rfl rfl (by decide) rfl ?_
      refine q_iincN (q := 4) hc 1 [(5, .int (iZ ((i + 1 : Nat) : Int))), (4, .int (iZ ((b0 + 1 : Nat) : Int))), (2, .long (jZ ((a + co i : Nat) : Int))), (0, .ref (ad 7)), (1, .ref (ad (30 + 3 * t)))] dX1_measure_44 rfl rfl (by decide) rfl ?_
      refine q_goto hc 8 dX1_measure_47 (by decide) ?_
      refine V.sub [3, 4, 2, 1, 0] rfl ?_
      exact ih8 (i + 1, a + co i, b0 + 1) (by omega) ⟨(by omega), (by rw [sm_s, if_pos c10, ha]), (by rw [cnt_s, if_pos c10, hb0])⟩
