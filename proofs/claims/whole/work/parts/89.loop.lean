/-! the law's loop -/
abbrev LV (ad : Nat → Nat) (b t : Nat) : List (Nat × Value) := [(0, .ref b), (1, .ref (ad 0)), (2, .ref (ad 66)), (3, .ref (ad 78)), (4, .int (iZ ((3 + 5 * t : Nat) : Int)))]
set_option maxRecDepth 100000 in
set_option maxHeartbeats 16000000 in
theorem lw_step {p : Program} {l : Launch} {e : Env} {s : State} {m : MethodId} {below : List Frame} {meth : Method} {c : Code} {b L : Nat} {xs : Nat → Int32} {D : va_G} {K : Nat → ClassId} {ad : Nat → Nat} {w h n c0 : Nat} (hC : LC p l s m c b L xs D K w h n c0) (hr : meth.sig.returnType = ret) (hlk : meth.locks = false) {t : Nat} (ht0 : 5 * t ≤ L) {nc rc : Nat} {cap us hi pn : Nat → Nat} {rl : Nat → Int} {pi : Nat → Nat → Nat} {ro : Nat → Nat → Bool} {ws : va_W} (hF : FW K ad w h n c0 nc rc cap us hi pn rl pi ro ws) (hG : GI n nc rc cap hi pn pi (us, ro, rl) t)
    (k : 3 + 5 * t + 5 ≤ L → ∀ (nc rc : Nat) (cap us hi pn : Nat → Nat) (rl : Nat → Int) (pi : Nat → Nat → Nat) (ro : Nat → Nat → Bool) (u : va_W), FW K ad w h n c0 nc rc cap us hi pn rl pi ro u → GI n nc rc cap hi pn pi (us, ro, rl) (t + 1) → V p l e room_1 s m #[Value.ref b] below meth c 8 (79 + 2 * (t + 1)) (8194 + 12 * (t + 1)) (lw_Z below #[Value.ref b] s) (hpM D (va_A [] s.heap.size) s.heap) u (LV ad b (t + 1)) 53 []) : V p l e room_1 s m #[Value.ref b] below meth c 8 (79 + 2 * t) (8194 + 12 * t) (lw_Z below #[Value.ref b] s) (hpM D (va_A [] s.heap.size) s.heap) ws (LV ad b t) 53 [] := by
  have hC0 := hC
  obtain ⟨hc, hXE, hX, hbl, hl, hWH, hc0, hL⟩ := hC
  have hbA : ¬ va_A [] s.heap.size b := no_A hbl
  refine q_iload hc 4 dL_law_53 rfl ?_
  refine q_aload_n hc 0 dL_law_55 rfl ?_
  refine q_slen hc hX hbl hbA dL_law_56 ?_
  refine q_iconstN hc 5 dL_law_57 rfl ?_
  refine q_isub hc dL_law_58 ?_
  refine q_icmp_gt hc 1042 dL_law_59 (by decide) (by omega) (by omega) (fun c1 => ?_) (fun c1 => ?_)
  · refine q_iconstN hc 1 dL_law_1042 rfl ?_
    intro H locs ls hH h9
    rw [show iZ ((1 : Nat) : Int) = 1 from by decide +kernel]
    exact va_forget (fun q hq => by
      rcases hH.2.2.1.2.2 q hq with ⟨k9, e9, hk9⟩ | h8
      · cases hk9
      · exact h8) (W.widen (by omega) (by omega) (lw_ret hc.1.1 hc.1.2.1 hr hlk dL_law_1043))
  · have ht : 3 + 5 * t + 5 ≤ L := by omega
    refine q_aload_n hc 0 dL_law_62 rfl ?_
    refine q_iload hc 4 dL_law_63 rfl ?_
    refine q_sld (j := 3 + 5 * t) hc hX hbl hbA rfl (by omega) (by omega) dL_law_65 ?_
    refine q_bipushN hc 15 dL_law_66 (by decide +kernel) ?_
    refine q_iandW hc dL_law_68 ?_
    obtain ⟨j, hj, ej⟩ := and15 (iZ ((xs (3 + 5 * t)).toInt))
    refine V.topw (z := ((j : Nat) : Int)) ej ?_
    have ih : ∀ (nc rc : Nat) (cap us hi pn : Nat → Nat) (rl : Nat → Int) (pi : Nat → Nat → Nat) (ro : Nat → Nat → Bool) (u : va_W), FW K ad w h n c0 nc rc cap us hi pn rl pi ro u → GI n nc rc cap hi pn pi (us, ro, rl) (t + 1) → V p l e room_1 s m #[Value.ref b] below meth c 8 (79 + 2 * (t + 1)) (8194 + 12 * (t + 1)) (lw_Z below #[Value.ref b] s) (hpM D (va_A [] s.heap.size) s.heap) u (LV ad b t) 1036 [] := by
      intro nc rc cap us hi pn rl pi ro u hF hG
      refine q_iincN (q := 4) hc 5 [(4, .int (iZ ((3 + 5 * t + 5 : Nat) : Int))), (0, .ref b), (1, .ref (ad 0)), (2, .ref (ad 66)), (3, .ref (ad 78))] dL_law_1036 rfl rfl (by decide) rfl ?_
      refine q_goto hc 53 dL_law_1039 (by decide) ?_
      refine V.sub [1, 2, 3, 4, 0] rfl ?_
      have e9 : LV ad b (t + 1) = [(0, .ref b), (1, .ref (ad 0)), (2, .ref (ad 66)), (3, .ref (ad 78)), (4, .int (iZ ((3 + 5 * t + 5 : Nat) : Int)))] := by
        show [(0, Value.ref b), (1, .ref (ad 0)), (2, .ref (ad 66)), (3, .ref (ad 78)), (4, .int (iZ ((3 + 5 * (t + 1) : Nat) : Int)))] = _
        rw [show 3 + 5 * (t + 1) = 3 + 5 * t + 5 by omega]
      have k9 := k ht nc rc cap us hi pn rl pi ro u hF hG
      rw [e9] at k9
      exact k9
    rcases (show j = 0 ∨ j = 1 ∨ j = 2 ∨ j = 3 ∨ j = 4 ∨ j = 5 ∨ j = 6 ∨ j = 7 ∨ j = 8 ∨ j = 9 ∨ j = 10 ∨ j = 11 ∨ j = 12 ∨ 13 ≤ j by omega) with rfl | rfl | rfl | rfl | rfl | rfl | rfl | rfl | rfl | rfl | rfl | rfl | rfl | h13
    · refine q_tabIn (j := 0) hc 136 dL_law_69 (by decide) (by decide) rfl (by decide) ?_
      exact lw_capacity hC0 ht hF hG ih
    · refine q_tabIn (j := 1) hc 244 dL_law_69 (by decide) (by decide) rfl (by decide) ?_
      exact lw_net hC0 ht hF hG ih
    · refine q_tabIn (j := 2) hc 288 dL_law_69 (by decide) (by decide) rfl (by decide) ?_
      exact lw_pin hC0 ht hF hG ih
    · refine q_tabIn (j := 3) hc 368 dL_law_69 (by decide) (by decide) rfl (by decide) ?_
      exact lw_lead hC0 ht hF hG ih
    · refine q_tabIn (j := 4) hc 423 dL_law_69 (by decide) (by decide) rfl (by decide) ?_
      exact lw_rip hC0 ht hF hG ih
    · refine q_tabIn (j := 5) hc 479 dL_law_69 (by decide) (by decide) rfl (by decide) ?_
      exact lw_run hC0 ht hF hG ih
    · refine q_tabIn (j := 6) hc 535 dL_law_69 (by decide) (by decide) rfl (by decide) ?_
      exact lw_forget hC0 ht hF hG ih
    · refine q_tabIn (j := 7) hc 549 dL_law_69 (by decide) (by decide) rfl (by decide) ?_
      exact lw_length hC0 ht hF hG ih
    · refine q_tabIn (j := 8) hc 605 dL_law_69 (by decide) (by decide) rfl (by decide) ?_
      exact lw_least hC0 ht hF hG ih
    · refine q_tabIn (j := 9) hc 661 dL_law_69 (by decide) (by decide) rfl (by decide) ?_
      exact lw_has hC0 ht hF hG ih
    · refine q_tabIn (j := 10) hc 776 dL_law_69 (by decide) (by decide) rfl (by decide) ?_
      exact lw_border hC0 ht hF hG ih
    · refine q_tabIn (j := 11) hc 884 dL_law_69 (by decide) (by decide) rfl (by decide) ?_
      exact lw_line hC0 ht hF hG ih
    · refine q_tabIn (j := 12) hc 980 dL_law_69 (by decide) (by decide) rfl (by decide) ?_
      exact lw_told hC0 ht hF hG ih
    · refine q_tabOut hc 1036 dL_law_69 (by omega) (by omega) (by decide) ?_
      refine V.widen (k := 79 + 2 * (t + 1)) (n := 8194 + 12 * (t + 1)) (by omega) (by omega) ?_
      exact ih nc rc cap us hi pn rl pi ro ws hF hG.mono
theorem lw_loop {p : Program} {l : Launch} {e : Env} {s : State} {m : MethodId} {below : List Frame} {meth : Method} {c : Code} {b L : Nat} {xs : Nat → Int32} {D : va_G} {K : Nat → ClassId} {ad : Nat → Nat} {w h n c0 : Nat} (hC : LC p l s m c b L xs D K w h n c0) (hr : meth.sig.returnType = ret) (hlk : meth.locks = false) : ∀ (N t nc rc : Nat) (cap us hi pn : Nat → Nat) (rl : Nat → Int) (pi : Nat → Nat → Nat) (ro : Nat → Nat → Bool) (ws : va_W), L ≤ 5 * t + N → 5 * t ≤ L → FW K ad w h n c0 nc rc cap us hi pn rl pi ro ws → GI n nc rc cap hi pn pi (us, ro, rl) t → V p l e room_1 s m #[Value.ref b] below meth c 8 (79 + 2 * t) (8194 + 12 * t) (lw_Z below #[Value.ref b] s) (hpM D (va_A [] s.heap.size) s.heap) ws (LV ad b t) 53 [] := by
  intro N
  induction N with
  | zero => intro t nc rc cap us hi pn rl pi ro ws h1 h2 hF hG; exact lw_step hC hr hlk h2 hF hG (fun h9 => by omega)
  | succ N ih => intro t nc rc cap us hi pn rl pi ro ws h1 h2 hF hG; exact lw_step hC hr hlk h2 hF hG (fun h9 nc rc cap us hi pn rl pi ro u hF hG => ih (t + 1) nc rc cap us hi pn rl pi ro u (by omega) (by omega) hF hG)
