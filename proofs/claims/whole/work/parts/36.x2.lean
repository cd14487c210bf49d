section XT
variable {p : Program} {l : Launch} {e : Env} {R : Room} {s : State} {m : MethodId} {args : Array Value} {below : List Frame} {meth : Method} {c : Code} {nL cells slots : Nat} {Q : State → Prop} {Hp : va_W → Heap → List Loc → Prop} {ws : va_W} {lv : List (Nat × Value)} {pc : Nat} {st : List Value}
variable {cc : ByteArray} {Ts : List Cond} {own : String} {D : va_G} {K : Nat → ClassId}
theorem q_tabIn (hc : Cx p s m args c cc nL Ts own D K Hp) {j len : Nat} {dflt hi off : Int} {offs : Array Int} (tgt : Nat) (hd : decode cc pc = .ok (.tableswitch dflt 0 hi offs, len)) (hj : ¬ hi < (j : Int)) (hj2 : j < 2147483648) (ho : offs[j]? = some off) (ht : (pc : Int) + off = (tgt : Int)) (k : V p l e R s m args below meth c nL cells slots Q Hp ws lv (tgt) (st)) : V p l e R s m args below meth c nL cells slots Q Hp ws lv (pc) (.int (iZ ((j : Nat) : Int)) :: st) := fun H locs ls hH h => by
  have e9 : (iZ ((j : Nat) : Int)).toInt = (j : Int) := iZ_toInt (by omega)
  exact lv_tableIn hc.1.1 hc.1.2.1 hd (by rw [e9]; omega) (by rw [e9]; exact hj) (by rw [e9, show ((j : Int) - 0).toNat = j by omega]; exact ho) ht (k H locs ls hH h)
theorem q_tabOut (hc : Cx p s m args c cc nL Ts own D K Hp) {z : Int} {len : Nat} {dflt lo hi : Int} {offs : Array Int} (tgt : Nat) (hd : decode cc pc = .ok (.tableswitch dflt lo hi offs, len)) (hz : -2147483648 ≤ z ∧ z < 2147483648) (h : z < lo ∨ hi < z) (ht : (pc : Int) + dflt = (tgt : Int)) (k : V p l e R s m args below meth c nL cells slots Q Hp ws lv (tgt) (st)) : V p l e R s m args below meth c nL cells slots Q Hp ws lv (pc) (.int (iZ z) :: st) := fun H locs ls hH h9 => lv_tableOut hc.1.1 hc.1.2.1 hd (by rw [iZ_toInt hz]; exact h) ht (k H locs ls hH h9)
end XT
/-- a round, and rounds -/
def rdS (nb bt : Nat → Option Nat) (n nc : Nat) (cap : Nat → Nat) (pn : Nat → Nat) (pi : Nat → Nat → Nat) (X : RS × (Nat → Nat)) : RS × (Nat → Nat) := (plS nb bt n cap X.2 pn pi X.1 nc, fun k => X.2 k + (if 0 < (plS nb bt n cap X.2 pn pi X.1 nc).1 k - cap k then 1 else 0))
def dnB (n nc : Nat) (cap pn : Nat → Nat) (S : RS) : Bool := !(anyB (fun j => decide (2 ≤ pn j) && decide (S.2.2 j = -1)) nc) && decide (cnt (fun k => decide (0 < S.1 k - cap k)) (2 * n) = 0)
def rnN (nb bt : Nat → Option Nat) (n nc : Nat) (cap : Nat → Nat) (pn : Nat → Nat) (pi : Nat → Nat → Nat) : Nat → RS × (Nat → Nat) → Nat × (RS × (Nat → Nat))
  | 0, X => (0, X)
  | f + 1, X => if dnB n nc cap pn X.1 = true then (0, X) else ((rnN nb bt n nc cap pn pi f (rdS nb bt n nc cap pn pi X)).1 + 1, (rnN nb bt n nc cap pn pi f (rdS nb bt n nc cap pn pi X)).2)
theorem rnN_stop {nb bt : Nat → Option Nat} {n nc : Nat} {cap pn : Nat → Nat} {pi : Nat → Nat → Nat} {f : Nat} {X : RS × (Nat → Nat)} (h : dnB n nc cap pn X.1 = true) : rnN nb bt n nc cap pn pi f X = (0, X) := by
  cases f with
  | zero => rfl
  | succ f => exact if_pos h
theorem rnN_go {nb bt : Nat → Option Nat} {n nc : Nat} {cap pn : Nat → Nat} {pi : Nat → Nat → Nat} {f : Nat} {X : RS × (Nat → Nat)} (h : dnB n nc cap pn X.1 = false) : rnN nb bt n nc cap pn pi (f + 1) X = ((rnN nb bt n nc cap pn pi f (rdS nb bt n nc cap pn pi X)).1 + 1, (rnN nb bt n nc cap pn pi f (rdS nb bt n nc cap pn pi X)).2) := if_neg (by rw [h]; decide)
theorem Inv.pl {n nc : Nat} {S : RS} (h : Inv n nc S) (hn : n ≤ 64) (nb bt : Nat → Option Nat) {cap : Nat → Nat} (hi : Nat → Nat) {pn : Nat → Nat} {pi : Nat → Nat → Nat} {i : Nat} (hi0 : i ≤ nc) : Inv n nc (plS nb bt n cap hi pn pi S i) := by
  induction i with
  | zero => exact h
  | succ i ih =>
    rw [plS_s]
    split
    · exact (ih (by omega)).ld hn (by omega) _
    · exact ih (by omega)
def bdV (cap us hi : Nat → Nat) (k : Nat) : Nat → Nat
  | 0 => us k
  | 1 => cap k
  | 2 => hi k
  | _ => us k - cap k
def lnK (w h : Nat) : Bool → Nat
  | true => h
  | false => w
def lnV (w h nc : Nat) (cap us pn : Nat → Nat) (pi : Nat → Nat → Nat) (d : Bool) (k : Nat) : Nat → Nat
  | 0 => cnt (fun j => acr w d k (pn j) (pi j)) nc
  | 1 => sm (fun j => cap (lnB w k d j)) (lnN w h d)
  | _ => sm (fun j => us (lnB w k d j)) (lnN w h d)
def tdV (w h n nc rc : Nat) (cap us : Nat → Nat) (rl : Nat → Int) : Nat → Nat
  | 0 => nc
  | 1 => cnt (fun j => decide (¬ rl j = -1)) nc
  | 2 => sm (fun j => (rl j).toNat) nc
  | 3 => cnt (fun k => decide (0 < us k - cap k)) (2 * n)
  | 4 => sm (fun k => us k - cap k) (2 * n)
  | 5 => w
  | 6 => h
  | _ => rc
def nrZ (q lo hi : Int) : Int := if q < lo then lo else if hi < q then hi else q

set_option maxRecDepth 100000 in
set_option maxHeartbeats 4000000 in
theorem c_X4_pin (l : Launch) (hl : l.stackTraces = false) (D : va_G) (K : Nat → ClassId) (ws : va_W) (ad : Nat → Nat) (nc rc : Nat) (num : Int) (x y : Int) (w h n : Nat) (us : Nat → Nat) (pn : Nat → Nat) (rl : Nat → Int) (pi : Nat → Nat → Nat) (ro : Nat → Nat → Bool) (h0 : ws[0]? = some (ad 0, xO ad nc rc)) (h1 : ws[1]? = some (ad 1, gO ad w h n)) (h3 : ws[3]? = some (ad 3, iN K (2 * n) us)) (h29 : ws[29]? = some (ad 29, nA K 12 (nF ad))) (hN : ∀ s, s < 12 → ws[30 + 3 * s]? = some (ad (30 + 3 * s), nO ad s (pn s) (rl s))) (hP : ∀ s, s < 12 → ws[31 + 3 * s]? = some (ad (31 + 3 * s), iN K 5 (pi s))) (hO : ∀ s, s < 12 → ws[32 + 3 * s]? = some (ad (32 + 3 * s), zA K (2 * n) (ro s))) (hnc : nc ≤ 12) (hnum : -2147483648 ≤ num ∧ num < 2147483648) (hx : -2147483648 ≤ x ∧ x < 2147483648) (hy : -2147483648 ≤ y ∧ y < 2147483648) (hn : n ≤ 64) (hw : 0 < w ∧ w ≤ 8 ∧ h ≤ 8) (hxy : ∀ x y, x < w → y < h → x + w * y < n) (hpn : ∀ j, j < nc → pn j ≤ 5) (hpif : ∀ j k, j < nc → pi j k < 64) (hI : Inv n nc (us, ro, rl)) : MXi l yX4_pin wsX4_pin ({ frames := 7, cells := 2, slots := 12, locals := 111 }) D K ws [.ref (ad 0), .int (iZ num), .int (iZ x), .int (iZ y)] 2 (fun r u => (r = (iZ ((pn num.toNat + 1 : Nat) : Int))) ∧ (0 ≤ num ∧ num < (nc : Int)) ∧ ((0 ≤ x ∧ x < (w : Int) ∧ 0 ≤ y ∧ y < (h : Int))) ∧ (anyB (fun k => decide (pi num.toNat k = x.toNat + w * y.toNat)) (pn num.toNat) = false) ∧ (pn num.toNat < 5) ∧ (u[3]? = some (ad 3, iN K (2 * n) (sbU us (ro num.toNat)))) ∧ (∀ s, s < 12 → u[30 + 3 * s]? = some (ad (30 + 3 * s), nO ad s ((va_up pn num.toNat (pn num.toNat + 1)) s) ((va_up rl num.toNat (-1)) s))) ∧ (∀ s, s < 12 → u[31 + 3 * s]? = some (ad (31 + 3 * s), iN K 5 ((va_up pi num.toNat (va_up (pi num.toNat) (pn num.toNat) (x.toNat + w * y.toNat))) s))) ∧ (∀ s, s < 12 → u[32 + 3 * s]? = some (ad (32 + 3 * s), zA K (2 * n) ((va_up ro num.toNat (fun _ => false)) s))) ∧ (Fr (fun j => j = 3 ∨ (30 ≤ j ∧ j < 66 ∧ (j - 30) % 3 = 0) ∨ (31 ≤ j ∧ j < 67 ∧ (j - 31) % 3 = 0) ∨ (32 ≤ j ∧ j < 68 ∧ (j - 32) % 3 = 0)) ws u)) (fun E => (E = "java/lang/IndexOutOfBoundsException" ∧ ¬ (0 ≤ num ∧ num < (nc : Int))) ∨ (E = "java/lang/IllegalArgumentException" ∧ (0 ≤ num ∧ num < (nc : Int)) ∧ ¬ (0 ≤ x ∧ x < (w : Int) ∧ 0 ≤ y ∧ y < (h : Int))) ∨ (E = "java/lang/IllegalArgumentException" ∧ (0 ≤ num ∧ num < (nc : Int)) ∧ (0 ≤ x ∧ x < (w : Int) ∧ 0 ≤ y ∧ y < (h : Int)) ∧ anyB (fun k => decide (pi num.toNat k = x.toNat + w * y.toNat)) (pn num.toNat) = true) ∨ (E = "java/lang/IllegalStateException" ∧ (0 ≤ num ∧ num < (nc : Int)) ∧ (0 ≤ x ∧ x < (w : Int) ∧ 0 ≤ y ∧ y < (h : Int)) ∧ anyB (fun k => decide (pi num.toNat k = x.toNat + w * y.toNat)) (pn num.toNat) = false ∧ ¬ pn num.toNat < 5)) := by
  refine q_entXi RX4 [(0, .ref (ad 0)), (1, .int (iZ num)), (2, .int (iZ x)), (3, .int (iZ y))] (by decide) rfl rfl (Nat.le_of_ble_eq_true rfl) rfl ?_
  intro p e s m args below meth c hc hXE hout hr hlk
  have i4 : ∀ w ∈ u_ws RX4 TX4 6, w ∈ wsX4_pin := by decide +kernel
  have f18 := hc.1.2.2.2.2 (.fieldLink RX4 18 "GlobalRoutes" "grid" "LGlobalRoutes$Grid;") (by decide +kernel)
  have i3 : ∀ w ∈ u_ws RX3 TX3 4, w ∈ wsX4_pin := by decide +kernel
  have f97 := hc.1.2.2.2.2 (.fieldLink RX4 97 "GlobalRoutes$Net" "pinCount" "I") (by decide +kernel)
  have fr0 : Fr (fun j => j = 3 ∨ (30 ≤ j ∧ j < 66 ∧ (j - 30) % 3 = 0) ∨ (31 ≤ j ∧ j < 67 ∧ (j - 31) % 3 = 0) ∨ (32 ≤ j ∧ j < 68 ∧ (j - 32) % 3 = 0)) ws ws := Fr.rfl
  refine q_aload_n hc 0 dX4_pin_0 rfl ?_
  refine q_iload_n hc 1 dX4_pin_1 rfl ?_
  refine q_callXr (As := [.int (iZ num)]) (rest := []) hc hXE hout hlk (c_X4_checkedNet l hl D K ws ad nc rc num h0 h29 hnc hnum) (cwV 1 hc.1.2.2.2.2 gX4_pin_X4_checkedNet rfl rfl rfl (by decide +kernel) ⟨Nat.le_of_ble_eq_true rfl, Nat.le_of_ble_eq_true rfl⟩) 0 h0 rfl rfl rfl (by decide) dX4_pin_2 ⟨Nat.le_of_ble_eq_true rfl, Nat.le_of_ble_eq_true rfl⟩ ⟨by decide, by decide⟩ (fun E h => Or.inl h) (fun r2 u1 hp' => ?_)
  obtain ⟨hr3, hx4, hw5⟩ := hp'; subst hw5; subst hr3
  refine q_astore hc [(4, .ref (ad (30 + 3 * num.toNat))), (0, .ref (ad 0)), (1, .int (iZ num)), (2, .int (iZ x)), (3, .int (iZ y))] dX4_pin_5 (by decide) rfl ?_
  refine q_aload_n hc 1 dX4_pin_7 rfl ?_
  refine q_get hc 0 0 i4 h0 rfl (by decide) f18 rfl rfl dX4_pin_8 ?_
  refine q_iload_n hc 3 dX4_pin_11 rfl ?_
  refine q_iload_n hc 4 dX4_pin_12 rfl ?_
  refine q_callPz (As := [.int (iZ x), .int (iZ y)]) (rest := []) hc (c_X0_hasCell l D K ws ad x y w h n h1 hx hy hn hw) (cwV 2 hc.1.2.2.2.2 gX4_pin_X0_hasCell rfl rfl rfl (by decide +kernel) ⟨Nat.le_of_ble_eq_true rfl, Nat.le_of_ble_eq_true rfl⟩) 1 h1 rfl rfl rfl (by decide) dX4_pin_13 ⟨Nat.le_of_ble_eq_true rfl, Nat.le_of_ble_eq_true rfl⟩ ?_
  refine q_ifz_ne hc 29 dX4_pin_16 (by decide) (fun c8 => ?_) (fun c8 => ?_)
  · have hcl9 := of_decide_eq_true c8
    have hq9 := hxy x.toNat y.toNat (by omega) (by omega)
    refine q_aload_n hc 1 dX4_pin_29 rfl ?_
    refine q_get hc 0 0 i4 h0 rfl (by decide) f18 rfl rfl dX4_pin_30 ?_
    refine q_iload_n hc 3 dX4_pin_33 rfl ?_
    refine V.topi (show _ = ((x.toNat : Nat) : Int) from by omega) ?_
    refine q_iload_n hc 4 dX4_pin_34 rfl ?_
    refine V.topi (show _ = ((y.toNat : Nat) : Int) from by omega) ?_
    refine q_callPn (As := [.int (iZ ((x.toNat : Nat) : Int)), .int (iZ ((y.toNat : Nat) : Int))]) (rest := []) hc (c_X0_cellAt l D K ws ad x.toNat y.toNat w h n h1 ) (cwV 2 hc.1.2.2.2.2 gX4_pin_X0_cellAt rfl rfl rfl (by decide +kernel) ⟨Nat.le_of_ble_eq_true rfl, Nat.le_of_ble_eq_true rfl⟩) 1 h1 rfl rfl rfl (by decide) dX4_pin_35 ⟨Nat.le_of_ble_eq_true rfl, Nat.le_of_ble_eq_true rfl⟩ ?_
    refine q_istore hc [(5, .int (iZ ((x.toNat + w * y.toNat : Nat) : Int))), (4, .ref (ad (30 + 3 * num.toNat))), (0, .ref (ad 0)), (1, .int (iZ num)), (2, .int (iZ x)), (3, .int (iZ y))] dX4_pin_38 (by decide) rfl ?_
    refine q_aload hc 1 dX4_pin_40 rfl ?_
    refine q_iload hc 0 dX4_pin_42 rfl ?_
    have hq11 : ws[30 + 3 * num.toNat]? = some (ad (30 + 3 * num.toNat), nO ad num.toNat (pn num.toNat) (rl num.toNat)) := hN num.toNat (by omega)
    have hq12 : ws[31 + 3 * num.toNat]? = some (ad (31 + 3 * num.toNat), iN K 5 (pi num.toNat)) := hP num.toNat (by omega)
    refine q_callPz (As := [.int (iZ ((x.toNat + w * y.toNat : Nat) : Int))]) (rest := []) hc (c_X3_hasPin l D K ws ad num.toNat (pn num.toNat) (rl num.toNat) (x.toNat + w * y.toNat) (pi num.toNat) hq11 hq12 (hpn num.toNat (by omega)) (fun k9 => hpif num.toNat k9 (by omega)) (by omega)) (cwV 1 hc.1.2.2.2.2 gX4_pin_X3_hasPin rfl rfl rfl (by decide +kernel) ⟨Nat.le_of_ble_eq_true rfl, Nat.le_of_ble_eq_true rfl⟩) (30 + 3 * num.toNat) hq11 rfl rfl rfl (by decide) dX4_pin_44 ⟨Nat.le_of_ble_eq_true rfl, Nat.le_of_ble_eq_true rfl⟩ ?_
    refine q_ifz_eq hc 60 dX4_pin_47 (by decide) (fun c15 => ?_) (fun c15 => ?_)
    · refine q_aload hc 1 dX4_pin_60 rfl ?_
      refine q_get hc (30 + 3 * num.toNat) 2 i3 hq11 rfl (by decide) f97 rfl rfl dX4_pin_62 ?_
      have hpn9 := hpn num.toNat (by omega)
      refine q_iconstN hc 5 dX4_pin_65 rfl ?_
      refine q_icmpN_lt hc 79 dX4_pin_66 (by decide) (by omega) (by omega) (fun c16 => ?_) (fun c16 => ?_)
      · refine q_aload_n hc 2 dX4_pin_79 rfl ?_
        refine q_aload hc 1 dX4_pin_80 rfl ?_
        have hq17 : ws[32 + 3 * num.toNat]? = some (ad (32 + 3 * num.toNat), zA K (2 * n) (ro num.toNat)) := hO num.toNat (by omega)
        refine q_callMi (As := [.ref (ad (30 + 3 * num.toNat))]) (rest := []) hc (c_X4_dropRoute l D K ws ad nc rc num.toNat (pn num.toNat) (rl num.toNat) w h n us (ro num.toNat) h0 h1 h3 hq11 hq17 hn (hI.2.2 num.toNat (by omega)) (hI.uro (by omega)) (hI.2.1 num.toNat (by omega))) (cwV 1 hc.1.2.2.2.2 gX4_pin_X4_dropRoute rfl rfl rfl (by decide +kernel) ⟨Nat.le_of_ble_eq_true rfl, Nat.le_of_ble_eq_true rfl⟩) 0 h0 rfl rfl rfl (by decide) dX4_pin_82 ⟨Nat.le_of_ble_eq_true rfl, Nat.le_of_ble_eq_true rfl⟩ (fun r19 u18 hp' => ?_)
        obtain ⟨hr24, hq20, hq21, hq22, fr23⟩ := hp'
        have hq25 := (fr23.at 0 (by omega)).trans h0
        have hq26 := (fr23.at 1 (by omega)).trans h1
        have hq27 := (fr23.at 29 (by omega)).trans h29
        have hq28 : ∀ s, s < 12 → u18[30 + 3 * s]? = some (ad (30 + 3 * s), nO ad s ((va_up pn num.toNat (pn num.toNat)) s) ((va_up rl num.toNat (-1)) s)) := fun s hs => by
          by_cases e9 : s = num.toNat
          · rw [e9]; simp only [va_up_self]; exact hq22
          · have h8 := (fr23.at (30 + 3 * s) (by omega)).trans (hN s hs)
            try simp only [va_up_ne _ _ e9] at h8
            simp only [va_up_ne _ _ e9]; exact h8
        have hq29 : ∀ s, s < 12 → u18[31 + 3 * s]? = some (ad (31 + 3 * s), iN K 5 (pi s)) := fun s hs => (fr23.at (31 + 3 * s) (by omega)).trans (hP s hs)
        have hq30 : ∀ s, s < 12 → u18[32 + 3 * s]? = some (ad (32 + 3 * s), zA K (2 * n) ((va_up ro num.toNat (fun _ => false)) s)) := fun s hs => by
          by_cases e9 : s = num.toNat
          · rw [e9]; simp only [va_up_self]; exact hq21
          · have h8 := (fr23.at (32 + 3 * s) (by omega)).trans (hO s hs)
            try simp only [va_up_ne _ _ e9] at h8
            simp only [va_up_ne _ _ e9]; exact h8
        subst hr24
        refine q_pop hc dX4_pin_85 rfl ?_
        refine q_aload hc 1 dX4_pin_86 rfl ?_
        refine q_iload hc 0 dX4_pin_88 rfl ?_
        have hq31 : u18[31 + 3 * num.toNat]? = some (ad (31 + 3 * num.toNat), iN K 5 (pi num.toNat)) := hq29 num.toNat (by omega)
        refine q_callMv (As := [.int (iZ ((x.toNat + w * y.toNat : Nat) : Int))]) (rest := []) hc (c_X3_addPin l D K u18 ad num.toNat (pn num.toNat) (-1) (x.toNat + w * y.toNat) (pi num.toNat) hq22 hq31 (by omega)) (cwV 1 hc.1.2.2.2.2 gX4_pin_X3_addPin rfl rfl rfl (by decide +kernel) ⟨Nat.le_of_ble_eq_true rfl, Nat.le_of_ble_eq_true rfl⟩) (30 + 3 * num.toNat) hq22 rfl rfl rfl (by decide) dX4_pin_90 ⟨Nat.le_of_ble_eq_true rfl, Nat.le_of_ble_eq_true rfl⟩ (fun u32 hp' => ?_)
        obtain ⟨hq34, hq35, fr36⟩ := hp'
        have hq37 := (fr36.at 0 (by omega)).trans hq25
        have hq38 := (fr36.at 1 (by omega)).trans hq26
        have hq39 := (fr36.at 3 (by omega)).trans hq20
        have hq40 := (fr36.at 29 (by omega)).trans hq27
        have hq41 : ∀ s, s < 12 → u32[30 + 3 * s]? = some (ad (30 + 3 * s), nO ad s ((va_up pn num.toNat ((pn num.toNat) + 1)) s) ((va_up rl num.toNat (-1)) s)) := fun s hs => by
          by_cases e9 : s = num.toNat
          · rw [e9]; simp only [va_up_self]; exact hq35
          · have h8 := (fr36.at (30 + 3 * s) (by omega)).trans (hq28 s hs)
            try simp only [va_up_ne _ _ e9] at h8
            simp only [va_up_ne _ _ e9]; exact h8
        have hq42 : ∀ s, s < 12 → u32[31 + 3 * s]? = some (ad (31 + 3 * s), iN K 5 ((va_up pi num.toNat (va_up (pi num.toNat) (pn num.toNat) (x.toNat + w * y.toNat))) s)) := fun s hs => by
          by_cases e9 : s = num.toNat
          · rw [e9]; simp only [va_up_self]; exact hq34
          · have h8 := (fr36.at (31 + 3 * s) (by omega)).trans (hq29 s hs)
            try simp only [va_up_ne _ _ e9] at h8
            simp only [va_up_ne _ _ e9]; exact h8
        have hq43 : ∀ s, s < 12 → u32[32 + 3 * s]? = some (ad (32 + 3 * s), zA K (2 * n) ((va_up ro num.toNat (fun _ => false)) s)) := fun s hs => (fr36.at (32 + 3 * s) (by omega)).trans (hq30 s hs)
        refine q_aload hc 1 dX4_pin_93 rfl ?_
        refine q_get hc (30 + 3 * num.toNat) 2 i3 hq35 rfl (by decide) f97 rfl rfl dX4_pin_95 ?_
        exact q_iretX (z := (((pn num.toNat) + 1 : Nat) : Int)) hc (⟨rfl, hx4, hcl9, c15, by omega, hq39, hq41, hq42, hq43, ((fr0.trans fr23 (fun _ _ => by omega)).trans fr36 (fun _ _ => by omega))⟩) hr hlk ⟨by decide, by decide⟩ dX4_pin_98
      · exact q_throw (text := "a net has at most 5 pins") hc hXE hl hout hlk (by decide +kernel) (by decide +kernel) (by decide +kernel) (by decide) rfl (by decide +kernel) (by decide +kernel) (by decide +kernel) dX4_pin_69 dX4_pin_72 dX4_pin_73 dX4_pin_75 dX4_pin_78 (by decide) (by decide) ⟨Nat.le_of_ble_eq_true rfl, Nat.le_of_ble_eq_true rfl⟩ ⟨by decide, by decide⟩ (Or.inr (Or.inr (Or.inr ⟨rfl, hx4, hcl9, c15, by omega⟩)))
    · exact q_throw (text := "the cell is a pin already") hc hXE hl hout hlk (by decide +kernel) (by decide +kernel) (by decide +kernel) (by decide) rfl (by decide +kernel) (by decide +kernel) (by decide +kernel) dX4_pin_50 dX4_pin_53 dX4_pin_54 dX4_pin_56 dX4_pin_59 (by decide) (by decide) ⟨Nat.le_of_ble_eq_true rfl, Nat.le_of_ble_eq_true rfl⟩ ⟨by decide, by decide⟩ (Or.inr (Or.inr (Or.inl ⟨rfl, hx4, hcl9, c15⟩)))
  · exact q_throw (text := "there is no such cell") hc hXE hl hout hlk (by decide +kernel) (by decide +kernel) (by decide +kernel) (by decide) rfl (by decide +kernel) (by decide +kernel) (by decide +kernel) dX4_pin_19 dX4_pin_22 dX4_pin_23 dX4_pin_25 dX4_pin_28 (by decide) (by decide) ⟨Nat.le_of_ble_eq_true rfl, Nat.le_of_ble_eq_true rfl⟩ ⟨by decide, by decide⟩ (Or.inr (Or.inl ⟨rfl, hx4, of_decide_eq_false c8⟩))

set_option maxRecDepth 100000 in
set_option maxHeartbeats 4000000 in
theorem c_X4_lead (l : Launch) (hl : l.stackTraces = false) (D : va_G) (K : Nat → ClassId) (ws : va_W) (ad : Nat → Nat) (num : Int) (nc rc : Nat) (w h n : Nat) (cap us hi co di : Nat → Nat) (tr : Nat → Bool) (nb bt : Nat → Option Nat) (pn : Nat → Nat) (rl : Nat → Int) (pi : Nat → Nat → Nat) (ro : Nat → Nat → Bool) (h0 : ws[0]? = some (ad 0, xO ad nc rc)) (h1 : ws[1]? = some (ad 1, gO ad w h n)) (h2 : ws[2]? = some (ad 2, iN K (2 * n) cap)) (h3 : ws[3]? = some (ad 3, iN K (2 * n) us)) (h4 : ws[4]? = some (ad 4, iN K (2 * n) hi)) (h5 : ws[5]? = some (ad 5, iA K (4 * n) (fun k => oZ (nb k)))) (h6 : ws[6]? = some (ad 6, iA K (4 * n) (fun k => oZ (bt k)))) (h7 : ws[7]? = some (ad 7, lO ad)) (h8 : ws[8]? = some (ad 8, iN K (2 * n) co)) (h9 : ws[9]? = some (ad 9, iN K n di)) (h10 : ws[10]? = some (ad 10, zA K n tr)) (h29 : ws[29]? = some (ad 29, nA K 12 (nF ad))) (hN : ∀ s, s < 12 → ws[30 + 3 * s]? = some (ad (30 + 3 * s), nO ad s (pn s) (rl s))) (hP : ∀ s, s < 12 → ws[31 + 3 * s]? = some (ad (31 + 3 * s), iN K 5 (pi s))) (hO : ∀ s, s < 12 → ws[32 + 3 * s]? = some (ad (32 + 3 * s), zA K (2 * n) (ro s))) (hn : n ≤ 64) (hnc : nc ≤ 12) (hNB : NB n nb bt) (hcap : ∀ k, k < 2 * n → cap k ≤ 20) (hhi : ∀ k, k < 2 * n → hi k ≤ 5120) (hpn : ∀ j, j < nc → pn j ≤ 5) (hpin : ∀ j k, j < nc → k < pn j → pi j k < n) (hnum : -2147483648 ≤ num ∧ num < 2147483648) (hI : Inv n nc (us, ro, rl)) : MXl l yX4_lead wsX4_lead ({ frames := 7, cells := 2, slots := 12, locals := 115 }) D K ws [.ref (ad 0), .int (iZ num)] 2 (fun r u => ∃ (cv : Nat → Nat) (dv : Nat → Nat) (tv : Nat → Bool), (r = (jZ ((sm (fun k => if rtN nb bt n cap hi (pn num.toNat) (pi num.toNat) us (ro num.toNat) k = true then coF cap (sbU us (ro num.toNat)) hi k else 0) (2 * n) : Nat) : Int))) ∧ (0 ≤ num ∧ num < (nc : Int)) ∧ (2 ≤ pn num.toNat) ∧ (u[3]? = some (ad 3, iN K (2 * n) ((ldS nb bt n cap hi pn pi num.toNat (us, ro, rl)).1))) ∧ (u[8]? = some (ad 8, iN K (2 * n) cv)) ∧ (u[9]? = some (ad 9, iN K n dv)) ∧ (u[10]? = some (ad 10, zA K n tv)) ∧ (∀ s, s < 12 → u[30 + 3 * s]? = some (ad (30 + 3 * s), nO ad s (pn s) (((ldS nb bt n cap hi pn pi num.toNat (us, ro, rl)).2.2) s))) ∧ (∀ s, s < 12 → u[32 + 3 * s]? = some (ad (32 + 3 * s), zA K (2 * n) (((ldS nb bt n cap hi pn pi num.toNat (us, ro, rl)).2.1) s))) ∧ (Fr (fun j => j = 3 ∨ j = 8 ∨ j = 9 ∨ j = 10 ∨ (30 ≤ j ∧ j < 66 ∧ (j - 30) % 3 = 0) ∨ (32 ≤ j ∧ j < 68 ∧ (j - 32) % 3 = 0)) ws u)) (fun E => (E = "java/lang/IndexOutOfBoundsException" ∧ ¬ (0 ≤ num ∧ num < (nc : Int))) ∨ (E = "java/lang/IllegalStateException" ∧ (0 ≤ num ∧ num < (nc : Int)) ∧ ¬ 2 ≤ pn num.toNat)) := by
  refine q_entXl RX4 [(0, .ref (ad 0)), (1, .int (iZ num))] (by decide) rfl rfl (Nat.le_of_ble_eq_true rfl) rfl ?_
  intro p e s m args below meth c hc hXE hout hr hlk
  have fr0 : Fr (fun j => j = 3 ∨ j = 8 ∨ j = 9 ∨ j = 10 ∨ (30 ≤ j ∧ j < 66 ∧ (j - 30) % 3 = 0) ∨ (32 ≤ j ∧ j < 68 ∧ (j - 32) % 3 = 0)) ws ws := Fr.rfl
  refine q_aload_n hc 0 dX4_lead_0 rfl ?_
  refine q_iload_n hc 1 dX4_lead_1 rfl ?_
  refine q_callXr (As := [.int (iZ num)]) (rest := []) hc hXE hout hlk (c_X4_checkedNet l hl D K ws ad nc rc num h0 h29 hnc hnum) (cwV 1 hc.1.2.2.2.2 gX4_lead_X4_checkedNet rfl rfl rfl (by decide +kernel) ⟨Nat.le_of_ble_eq_true rfl, Nat.le_of_ble_eq_true rfl⟩) 0 h0 rfl rfl rfl (by decide) dX4_lead_2 ⟨Nat.le_of_ble_eq_true rfl, Nat.le_of_ble_eq_true rfl⟩ ⟨by decide, by decide⟩ (fun E h => Or.inl h) (fun r2 u1 hp' => ?_)
  obtain ⟨hr3, hx4, hw5⟩ := hp'; subst hw5; subst hr3
  refine q_astore_n hc [(2, .ref (ad (30 + 3 * num.toNat))), (0, .ref (ad 0)), (1, .int (iZ num))] dX4_lead_5 rfl (by decide) rfl ?_
  refine q_aload_n hc 0 dX4_lead_6 rfl ?_
  have hq6 : ws[30 + 3 * num.toNat]? = some (ad (30 + 3 * num.toNat), nO ad num.toNat (pn num.toNat) (rl num.toNat)) := hN num.toNat (by omega)
  refine q_callPz (As := []) (rest := []) hc (c_X3_isRoutable l D K ws ad num.toNat (pn num.toNat) (rl num.toNat) hq6 (hpn num.toNat (by omega))) (cwV 0 hc.1.2.2.2.2 gX4_lead_X3_isRoutable rfl rfl rfl (by decide +kernel) ⟨Nat.le_of_ble_eq_true rfl, Nat.le_of_ble_eq_true rfl⟩) (30 + 3 * num.toNat) hq6 rfl rfl rfl (by decide) dX4_lead_7 ⟨Nat.le_of_ble_eq_true rfl, Nat.le_of_ble_eq_true rfl⟩ ?_
  refine q_ifz_ne hc 23 dX4_lead_10 (by decide) (fun c9 => ?_) (fun c9 => ?_)
  · refine q_aload_n hc 1 dX4_lead_23 rfl ?_
    refine q_aload_n hc 0 dX4_lead_24 rfl ?_
    have hq10 : ws[31 + 3 * num.toNat]? = some (ad (31 + 3 * num.toNat), iN K 5 (pi num.toNat)) := hP num.toNat (by omega)
    have hq11 : ws[32 + 3 * num.toNat]? = some (ad (32 + 3 * num.toNat), zA K (2 * n) (ro num.toNat)) := hO num.toNat (by omega)
    refine q_callMl (As := [.ref (ad (30 + 3 * num.toNat))]) (rest := []) hc (c_X4_leadAnew l D K ws ad nc rc num.toNat (pn num.toNat) (rl num.toNat) w h n cap us hi co di (pi num.toNat) tr (ro num.toNat) _ _ h0 h1 h2 h3 h4 h5 h6 h7 h8 h9 h10 hq6 hq10 hq11 hn hNB hcap (hI.us hnc) hhi (hpn num.toNat (by omega)) (of_decide_eq_true c9) (fun k hk => hpin num.toNat k (by omega) hk) (hI.2.2 num.toNat (by omega)) (hI.uro (by omega)) (hI.2.1 num.toNat (by omega))) (cwV 1 hc.1.2.2.2.2 gX4_lead_X4_leadAnew rfl rfl rfl (by decide +kernel) ⟨Nat.le_of_ble_eq_true rfl, Nat.le_of_ble_eq_true rfl⟩) 0 h0 rfl rfl rfl (by decide) dX4_lead_25 ⟨Nat.le_of_ble_eq_true rfl, Nat.le_of_ble_eq_true rfl⟩ (fun r13 u12 hp' => ?_)
    obtain ⟨hr21, hq14, hq15, hq16, hq17, hq18, hq19, fr20⟩ := hp'
    have hq22 := (fr20.at 0 (by omega)).trans h0
    have hq23 := (fr20.at 1 (by omega)).trans h1
    have hq24 := (fr20.at 2 (by omega)).trans h2
    have hq25 := (fr20.at 4 (by omega)).trans h4
    have hq26 := (fr20.at 5 (by omega)).trans h5
    have hq27 := (fr20.at 6 (by omega)).trans h6
    have hq28 := (fr20.at 7 (by omega)).trans h7
    have hq29 := (fr20.at 29 (by omega)).trans h29
    have hq30 : ∀ s, s < 12 → u12[30 + 3 * s]? = some (ad (30 + 3 * s), nO ad s ((va_up pn num.toNat (pn num.toNat)) s) ((va_up rl num.toNat ((cnt (jn nb bt (coF cap (sbU us (ro num.toNat)) hi) (pi num.toNat) n (pn num.toNat) ((pn num.toNat) - 1) (diS ((pi num.toNat) 0)) (trS ((pi num.toNat) 0)) (fun _ => false)).2.2 (2 * n) : Nat) : Int)) s)) := fun s hs => by
      by_cases e9 : s = num.toNat
      · rw [e9]; simp only [va_up_self]; exact hq19
      · have h8 := (fr20.at (30 + 3 * s) (by omega)).trans (hN s hs)
        try simp only [va_up_ne _ _ e9] at h8
        simp only [va_up_ne _ _ e9]; exact h8
    have hq31 : ∀ s, s < 12 → u12[31 + 3 * s]? = some (ad (31 + 3 * s), iN K 5 (pi s)) := fun s hs => (fr20.at (31 + 3 * s) (by omega)).trans (hP s hs)
    have hq32 : ∀ s, s < 12 → u12[32 + 3 * s]? = some (ad (32 + 3 * s), zA K (2 * n) ((va_up ro num.toNat ((jn nb bt (coF cap (sbU us (ro num.toNat)) hi) (pi num.toNat) n (pn num.toNat) ((pn num.toNat) - 1) (diS ((pi num.toNat) 0)) (trS ((pi num.toNat) 0)) (fun _ => false)).2.2)) s)) := fun s hs => by
      by_cases e9 : s = num.toNat
      · rw [e9]; simp only [va_up_self]; exact hq18
      · have h8 := (fr20.at (32 + 3 * s) (by omega)).trans (hO s hs)
        try simp only [va_up_ne _ _ e9] at h8
        simp only [va_up_ne _ _ e9]; exact h8
    subst hr21
    have hq33 : ∀ s, s < 12 → u12[30 + 3 * s]? = some (ad (30 + 3 * s), nO ad s (pn s) ((va_up rl num.toNat ((cnt (jn nb bt (coF cap (sbU us (ro num.toNat)) hi) (pi num.toNat) n (pn num.toNat) ((pn num.toNat) - 1) (diS ((pi num.toNat) 0)) (trS ((pi num.toNat) 0)) (fun _ => false)).2.2 (2 * n) : Nat) : Int)) s)) := fun s hs => by have h8 := hq30 s hs; rw [va_up_id] at h8; exact h8
    exact q_lretX (z := ((sm (fun k => if (jn nb bt (coF cap (sbU us (ro num.toNat)) hi) (pi num.toNat) n (pn num.toNat) ((pn num.toNat) - 1) (diS ((pi num.toNat) 0)) (trS ((pi num.toNat) 0)) (fun _ => false)).2.2 k = true then coF cap (sbU us (ro num.toNat)) hi k else 0) (2 * n) : Nat) : Int)) hc (⟨_, _, _, rfl, hx4, of_decide_eq_true c9, hq14, hq15, hq16, hq17, hq33, hq32, (fr0.trans fr20 (fun _ _ => by omega))⟩) hr hlk ⟨by decide, by decide⟩ dX4_lead_28
  · exact q_throw (text := "the net has fewer pins than two") hc hXE hl hout hlk (by decide +kernel) (by decide +kernel) (by decide +kernel) (by decide) rfl (by decide +kernel) (by decide +kernel) (by decide +kernel) dX4_lead_13 dX4_lead_16 dX4_lead_17 dX4_lead_19 dX4_lead_22 (by decide) (by decide) ⟨Nat.le_of_ble_eq_true rfl, Nat.le_of_ble_eq_true rfl⟩ ⟨by decide, by decide⟩ (Or.inr ⟨rfl, hx4, of_decide_eq_false c9⟩)

set_option maxRecDepth 100000 in
set_option maxHeartbeats 4000000 in
theorem c_X4_rip (l : Launch) (hl : l.stackTraces = false) (D : va_G) (K : Nat → ClassId) (ws : va_W) (ad : Nat → Nat) (nc rc : Nat) (num : Int) (w h n : Nat) (us : Nat → Nat) (pn : Nat → Nat) (rl : Nat → Int) (ro : Nat → Nat → Bool) (h0 : ws[0]? = some (ad 0, xO ad nc rc)) (h1 : ws[1]? = some (ad 1, gO ad w h n)) (h3 : ws[3]? = some (ad 3, iN K (2 * n) us)) (h29 : ws[29]? = some (ad 29, nA K 12 (nF ad))) (hN : ∀ s, s < 12 → ws[30 + 3 * s]? = some (ad (30 + 3 * s), nO ad s (pn s) (rl s))) (hO : ∀ s, s < 12 → ws[32 + 3 * s]? = some (ad (32 + 3 * s), zA K (2 * n) (ro s))) (hnc : nc ≤ 12) (hnum : -2147483648 ≤ num ∧ num < 2147483648) (hn : n ≤ 64) (hI : Inv n nc (us, ro, rl)) : MXi l yX4_rip wsX4_rip ({ frames := 7, cells := 1, slots := 6, locals := 111 }) D K ws [.ref (ad 0), .int (iZ num)] 1 (fun r u => (r = (iZ (rl num.toNat))) ∧ (0 ≤ num ∧ num < (nc : Int)) ∧ (u[3]? = some (ad 3, iN K (2 * n) (sbU us (ro num.toNat)))) ∧ (∀ s, s < 12 → u[30 + 3 * s]? = some (ad (30 + 3 * s), nO ad s (pn s) ((va_up rl num.toNat (-1)) s))) ∧ (∀ s, s < 12 → u[32 + 3 * s]? = some (ad (32 + 3 * s), zA K (2 * n) ((va_up ro num.toNat (fun _ => false)) s))) ∧ (Fr (fun j => j = 3 ∨ (30 ≤ j ∧ j < 66 ∧ (j - 30) % 3 = 0) ∨ (32 ≤ j ∧ j < 68 ∧ (j - 32) % 3 = 0)) ws u)) (fun E => E = "java/lang/IndexOutOfBoundsException" ∧ ¬ (0 ≤ num ∧ num < (nc : Int))) := by
  refine q_entXi RX4 [(0, .ref (ad 0)), (1, .int (iZ num))] (by decide) rfl rfl (Nat.le_of_ble_eq_true rfl) rfl ?_
  intro p e s m args below meth c hc hXE hout hr hlk
  have fr0 : Fr (fun j => j = 3 ∨ (30 ≤ j ∧ j < 66 ∧ (j - 30) % 3 = 0) ∨ (32 ≤ j ∧ j < 68 ∧ (j - 32) % 3 = 0)) ws ws := Fr.rfl
  refine q_aload_n hc 0 dX4_rip_0 rfl ?_
  refine q_aload_n hc 0 dX4_rip_1 rfl ?_
  refine q_iload_n hc 1 dX4_rip_2 rfl ?_
  refine q_callXr (As := [.int (iZ num)]) (rest := [.ref (ad 0)]) hc hXE hout hlk (c_X4_checkedNet l hl D K ws ad nc rc num h0 h29 hnc hnum) (cwV 1 hc.1.2.2.2.2 gX4_rip_X4_checkedNet rfl rfl rfl (by decide +kernel) ⟨Nat.le_of_ble_eq_true rfl, Nat.le_of_ble_eq_true rfl⟩) 0 h0 rfl rfl rfl (by simp [Value.category]) dX4_rip_3 ⟨Nat.le_of_ble_eq_true rfl, Nat.le_of_ble_eq_true rfl⟩ ⟨by decide, by decide⟩ (fun E h => h) (fun r2 u1 hp' => ?_)
  obtain ⟨hr3, hx4, hw5⟩ := hp'; subst hw5; subst hr3
  have hq6 : ws[30 + 3 * num.toNat]? = some (ad (30 + 3 * num.toNat), nO ad num.toNat (pn num.toNat) (rl num.toNat)) := hN num.toNat (by omega)
  have hq7 : ws[32 + 3 * num.toNat]? = some (ad (32 + 3 * num.toNat), zA K (2 * n) (ro num.toNat)) := hO num.toNat (by omega)
  refine q_callMi (As := [.ref (ad (30 + 3 * num.toNat))]) (rest := []) hc (c_X4_dropRoute l D K ws ad nc rc num.toNat (pn num.toNat) (rl num.toNat) w h n us (ro num.toNat) h0 h1 h3 hq6 hq7 hn (hI.2.2 num.toNat (by omega)) (hI.uro (by omega)) (hI.2.1 num.toNat (by omega))) (cwV 1 hc.1.2.2.2.2 gX4_rip_X4_dropRoute rfl rfl rfl (by decide +kernel) ⟨Nat.le_of_ble_eq_true rfl, Nat.le_of_ble_eq_true rfl⟩) 0 h0 rfl rfl rfl (by decide) dX4_rip_6 ⟨Nat.le_of_ble_eq_true rfl, Nat.le_of_ble_eq_true rfl⟩ (fun r9 u8 hp' => ?_)
  obtain ⟨hr14, hq10, hq11, hq12, fr13⟩ := hp'
  have hq15 := (fr13.at 0 (by omega)).trans h0
  have hq16 := (fr13.at 1 (by omega)).trans h1
  have hq17 := (fr13.at 29 (by omega)).trans h29
  have hq18 : ∀ s, s < 12 → u8[30 + 3 * s]? = some (ad (30 + 3 * s), nO ad s ((va_up pn num.toNat (pn num.toNat)) s) ((va_up rl num.toNat (-1)) s)) := fun s hs => by
    by_cases e9 : s = num.toNat
    · rw [e9]; simp only [va_up_self]; exact hq12
    · have h8 := (fr13.at (30 + 3 * s) (by omega)).trans (hN s hs)
      try simp only [va_up_ne _ _ e9] at h8
      simp only [va_up_ne _ _ e9]; exact h8
  have hq19 : ∀ s, s < 12 → u8[32 + 3 * s]? = some (ad (32 + 3 * s), zA K (2 * n) ((va_up ro num.toNat (fun _ => false)) s)) := fun s hs => by
    by_cases e9 : s = num.toNat
    · rw [e9]; simp only [va_up_self]; exact hq11
    · have h8 := (fr13.at (32 + 3 * s) (by omega)).trans (hO s hs)
      try simp only [va_up_ne _ _ e9] at h8
      simp only [va_up_ne _ _ e9]; exact h8
  subst hr14
  have hq20 : ∀ s, s < 12 → u8[30 + 3 * s]? = some (ad (30 + 3 * s), nO ad s (pn s) ((va_up rl num.toNat (-1)) s)) := fun s hs => by have h8 := hq18 s hs; rw [va_up_id] at h8; exact h8
  exact q_iretX (z := (rl num.toNat)) hc (⟨rfl, hx4, hq10, hq20, hq19, (fr0.trans fr13 (fun _ _ => by omega))⟩) hr hlk ⟨by decide, by decide⟩ dX4_rip_9

set_option maxRecDepth 100000 in
set_option maxHeartbeats 4000000 in
theorem c_X4_run (l : Launch) (hl : l.stackTraces = false) (D : va_G) (K : Nat → ClassId) (ws : va_W) (ad : Nat → Nat) (rounds : Int) (hb : Nat) (nc rc : Nat) (w h n : Nat) (cap us hi co di : Nat → Nat) (tr : Nat → Bool) (nb bt : Nat → Option Nat) (pn : Nat → Nat) (rl : Nat → Int) (pi : Nat → Nat → Nat) (ro : Nat → Nat → Bool) (h0 : ws[0]? = some (ad 0, xO ad nc rc)) (h1 : ws[1]? = some (ad 1, gO ad w h n)) (h2 : ws[2]? = some (ad 2, iN K (2 * n) cap)) (h3 : ws[3]? = some (ad 3, iN K (2 * n) us)) (h4 : ws[4]? = some (ad 4, iN K (2 * n) hi)) (h5 : ws[5]? = some (ad 5, iA K (4 * n) (fun k => oZ (nb k)))) (h6 : ws[6]? = some (ad 6, iA K (4 * n) (fun k => oZ (bt k)))) (h7 : ws[7]? = some (ad 7, lO ad)) (h8 : ws[8]? = some (ad 8, iN K (2 * n) co)) (h9 : ws[9]? = some (ad 9, iN K n di)) (h10 : ws[10]? = some (ad 10, zA K n tr)) (h29 : ws[29]? = some (ad 29, nA K 12 (nF ad))) (hN : ∀ s, s < 12 → ws[30 + 3 * s]? = some (ad (30 + 3 * s), nO ad s (pn s) (rl s))) (hP : ∀ s, s < 12 → ws[31 + 3 * s]? = some (ad (31 + 3 * s), iN K 5 (pi s))) (hO : ∀ s, s < 12 → ws[32 + 3 * s]? = some (ad (32 + 3 * s), zA K (2 * n) (ro s))) (hn : n ≤ 64) (hnc : nc ≤ 12) (hNB : NB n nb bt) (hcap : ∀ k, k < 2 * n → cap k ≤ 20) (hpn : ∀ j, j < nc → pn j ≤ 5) (hpin : ∀ j k, j < nc → k < pn j → pi j k < n) (hhb : ∀ k, k < 2 * n → hi k ≤ hb) (hb1 : hb + 10 ≤ 5120) (hrounds : -2147483648 ≤ rounds ∧ rounds < 2147483648) (hrc : rc + 10 < 2147483648) (hI : Inv n nc (us, ro, rl)) : MXi l yX4_run wsX4_run ({ frames := 6, cells := 1, slots := 6, locals := 137 }) D K ws [.ref (ad 0), .int (iZ rounds)] 1 (fun r u => ∃ (cv : Nat → Nat) (dv : Nat → Nat) (tv : Nat → Bool), (r = (iZ (((rnN nb bt n nc cap pn pi rounds.toNat ((us, ro, rl), hi)).1 : Nat) : Int))) ∧ (0 ≤ rounds ∧ rounds ≤ 10) ∧ (u[3]? = some (ad 3, iN K (2 * n) ((rnN nb bt n nc cap pn pi rounds.toNat ((us, ro, rl), hi)).2.1.1))) ∧ (u[4]? = some (ad 4, iN K (2 * n) ((rnN nb bt n nc cap pn pi rounds.toNat ((us, ro, rl), hi)).2.2))) ∧ (u[0]? = some (ad 0, xO ad nc (rc + (rnN nb bt n nc cap pn pi rounds.toNat ((us, ro, rl), hi)).1))) ∧ (u[8]? = some (ad 8, iN K (2 * n) cv)) ∧ (u[9]? = some (ad 9, iN K n dv)) ∧ (u[10]? = some (ad 10, zA K n tv)) ∧ (∀ s, s < 12 → u[30 + 3 * s]? = some (ad (30 + 3 * s), nO ad s (pn s) (((rnN nb bt n nc cap pn pi rounds.toNat ((us, ro, rl), hi)).2.1.2.2) s))) ∧ (∀ s, s < 12 → u[32 + 3 * s]? = some (ad (32 + 3 * s), zA K (2 * n) (((rnN nb bt n nc cap pn pi rounds.toNat ((us, ro, rl), hi)).2.1.2.1) s))) ∧ (Fr (fun j => j = 3 ∨ j = 4 ∨ j = 0 ∨ j = 8 ∨ j = 9 ∨ j = 10 ∨ (30 ≤ j ∧ j < 66 ∧ (j - 30) % 3 = 0) ∨ (32 ≤ j ∧ j < 68 ∧ (j - 32) % 3 = 0)) ws u)) (fun E => E = "java/lang/IllegalArgumentException" ∧ ¬ (0 ≤ rounds ∧ rounds ≤ 10)) := by
  refine q_entXi RX4 [(0, .ref (ad 0)), (1, .int (iZ rounds))] (by decide) rfl rfl (Nat.le_of_ble_eq_true rfl) rfl ?_
  intro p e s m args below meth c hc hXE hout hr hlk
  have fr0 : Fr (fun j => j = 3 ∨ j = 4 ∨ j = 0 ∨ j = 8 ∨ j = 9 ∨ j = 10 ∨ (30 ≤ j ∧ j < 66 ∧ (j - 30) % 3 = 0) ∨ (32 ≤ j ∧ j < 68 ∧ (j - 32) % 3 = 0)) ws ws := Fr.rfl
  refine q_iload_n hc 1 dX4_run_0 rfl ?_
  refine q_if_lt hc 10 dX4_run_1 (by decide) (by omega) (fun c1 => ?_) (fun c1 => ?_)
  · exact q_throw (text := "rounds are 0 .. 10") hc hXE hl hout hlk (by decide +kernel) (by decide +kernel) (by decide +kernel) (by decide) rfl (by decide +kernel) (by decide +kernel) (by decide +kernel) dX4_run_10 dX4_run_13 dX4_run_14 dX4_run_16 dX4_run_19 (by decide) (by decide) ⟨Nat.le_of_ble_eq_true rfl, Nat.le_of_ble_eq_true rfl⟩ ⟨by decide, by decide⟩ (⟨rfl, by omega⟩)
  · refine q_iload_n hc 1 dX4_run_4 rfl ?_
    refine q_bipushN hc 10 dX4_run_5 (by decide +kernel) ?_
    refine q_icmp_le hc 20 dX4_run_7 (by decide) (by omega) (by omega) (fun c2 => ?_) (fun c2 => ?_)
    · refine q_iconstN hc 0 dX4_run_20 rfl ?_
      refine q_istore_n hc [(2, .int (iZ ((0 : Nat) : Int))), (0, .ref (ad 0)), (1, .int (iZ rounds))] dX4_run_21 rfl (by decide) rfl ?_
      refine V.sub [1, 2, 0] rfl ?_
      refine V.loop (α := Nat × (Nat → Nat) × (Nat → Nat → Bool) × (Nat → Int) × (Nat → Nat) × (Nat → Nat) × (Nat → Nat) × (Nat → Bool)) (fun x => rounds.toNat - x.1) (fun x u => (x.1 ≤ rounds.toNat) ∧ ((rnN nb bt n nc cap pn pi (rounds.toNat - x.1) ((x.2.1, x.2.2.1, x.2.2.2.1), x.2.2.2.2.1)).2 = (rnN nb bt n nc cap pn pi rounds.toNat ((us, ro, rl), hi)).2) ∧ (x.1 + (rnN nb bt n nc cap pn pi (rounds.toNat - x.1) ((x.2.1, x.2.2.1, x.2.2.2.1), x.2.2.2.2.1)).1 = (rnN nb bt n nc cap pn pi rounds.toNat ((us, ro, rl), hi)).1) ∧ (Inv n nc (x.2.1, x.2.2.1, x.2.2.2.1)) ∧ (∀ k, k < 2 * n → x.2.2.2.2.1 k ≤ hb + x.1) ∧ (u[0]? = some (ad 0, xO ad nc (rc + x.1))) ∧ (u[3]? = some (ad 3, iN K (2 * n) x.2.1)) ∧ (u[4]? = some (ad 4, iN K (2 * n) x.2.2.2.2.1)) ∧ (u[8]? = some (ad 8, iN K (2 * n) x.2.2.2.2.2.1)) ∧ (u[9]? = some (ad 9, iN K n x.2.2.2.2.2.2.1)) ∧ (u[10]? = some (ad 10, zA K n x.2.2.2.2.2.2.2)) ∧ (∀ s, s < 12 → u[30 + 3 * s]? = some (ad (30 + 3 * s), nO ad s (pn s) (x.2.2.2.1 s))) ∧ (∀ s, s < 12 → u[32 + 3 * s]? = some (ad (32 + 3 * s), zA K (2 * n) (x.2.2.1 s))) ∧ (Fr (fun j => j = 0 ∨ j = 3 ∨ j = 4 ∨ j = 8 ∨ j = 9 ∨ j = 10 ∨ (30 ≤ j ∧ j < 66 ∧ (j - 30) % 3 = 0) ∨ (32 ≤ j ∧ j < 68 ∧ (j - 32) % 3 = 0)) ws u)) (fun x => [(0, .ref (ad 0)), (1, .int (iZ rounds)), (2, .int (iZ ((x.1 : Nat) : Int)))]) (0, us, ro, rl, hi, co, di, tr) ⟨(Nat.zero_le _), (rfl), (Nat.zero_add _), (hI), (hhb), (h0), (h3), (h4), (h8), (h9), (h10), (hN), (hO), (Fr.rfl)⟩ rfl ?_
      intro x ih22 u3 hI
      obtain ⟨i, U, O, L, hv, cv, dv, tv⟩ := x
      try dsimp only at ih22 hI ⊢
      obtain ⟨hi0, hR, hR2, hI9, hhv, hq4, hq5, hq6, hq7, hq8, hq9, hq10, hq11, fr12⟩ := hI
      have hq13 := (fr12.at 1 (by omega)).trans h1
      have hq14 := (fr12.at 2 (by omega)).trans h2
      have hq15 := (fr12.at 5 (by omega)).trans h5
      have hq16 := (fr12.at 6 (by omega)).trans h6
      have hq17 := (fr12.at 7 (by omega)).trans h7
      have hq18 := (fr12.at 29 (by omega)).trans h29
      have hq19 : ∀ s, s < 12 → u3[31 + 3 * s]? = some (ad (31 + 3 * s), iN K 5 (pi s)) := fun s hs => (fr12.at (31 + 3 * s) (by omega)).trans (hP s hs)
      refine q_iload_n hc 2 dX4_run_22 rfl ?_
      refine q_iload_n hc 1 dX4_run_23 rfl ?_
      refine q_icmp_ge hc 44 dX4_run_24 (by decide) (by omega) (by omega) (fun c20 => ?_) (fun c20 => ?_)
      · have hE : rnN nb bt n nc cap pn pi (rounds.toNat - i) ((U, O, L), hv) = (0, ((U, O, L), hv)) := by rw [show rounds.toNat - i = 0 by omega]; rfl
        have hE2 : (rnN nb bt n nc cap pn pi rounds.toNat ((us, ro, rl), hi)).2 = ((U, O, L), hv) := by rw [← hR, hE]
        have hE1 : (rnN nb bt n nc cap pn pi rounds.toNat ((us, ro, rl), hi)).1 = i := by rw [← hR2, hE]; rfl
        refine q_norm_iN (g := (rnN nb bt n nc cap pn pi rounds.toNat ((us, ro, rl), hi)).2.1.1) hc 3 hq5 (fun k _ => by rw [hE2]) (fun u21 hn' hf' => ?_)
        have hq22 : u21[3]? = some (ad 3, iN K (2 * n) ((rnN nb bt n nc cap pn pi rounds.toNat ((us, ro, rl), hi)).2.1.1)) := hn'
        have hq23 := (hf' 0 (by omega)).trans hq4
        have hq24 := (hf' 1 (by omega)).trans hq13
        have hq25 := (hf' 2 (by omega)).trans hq14
        have hq26 := (hf' 4 (by omega)).trans hq6
        have hq27 := (hf' 5 (by omega)).trans hq15
        have hq28 := (hf' 6 (by omega)).trans hq16
        have hq29 := (hf' 7 (by omega)).trans hq17
        have hq30 := (hf' 8 (by omega)).trans hq7
        have hq31 := (hf' 9 (by omega)).trans hq8
        have hq32 := (hf' 10 (by omega)).trans hq9
        have hq33 := (hf' 29 (by omega)).trans hq18
        have hq34 : ∀ s, s < 12 → u21[30 + 3 * s]? = some (ad (30 + 3 * s), nO ad s (pn s) (L s)) := fun s hs => (hf' (30 + 3 * s) (by omega)).trans (hq10 s hs)
        have hq35 : ∀ s, s < 12 → u21[31 + 3 * s]? = some (ad (31 + 3 * s), iN K 5 (pi s)) := fun s hs => (hf' (31 + 3 * s) (by omega)).trans (hq19 s hs)
        have hq36 : ∀ s, s < 12 → u21[32 + 3 * s]? = some (ad (32 + 3 * s), zA K (2 * n) (O s)) := fun s hs => (hf' (32 + 3 * s) (by omega)).trans (hq11 s hs)
        have fr37 := Fr.one hf'
        refine q_norm_iN (g := (rnN nb bt n nc cap pn pi rounds.toNat ((us, ro, rl), hi)).2.2) hc 4 hq26 (fun k _ => by rw [hE2]) (fun u38 hn' hf' => ?_)
        have hq39 : u38[4]? = some (ad 4, iN K (2 * n) ((rnN nb bt n nc cap pn pi rounds.toNat ((us, ro, rl), hi)).2.2)) := hn'
        have hq40 := (hf' 0 (by omega)).trans hq23
        have hq41 := (hf' 1 (by omega)).trans hq24
        have hq42 := (hf' 2 (by omega)).trans hq25
        have hq43 := (hf' 3 (by omega)).trans hq22
        have hq44 := (hf' 5 (by omega)).trans hq27
        have hq45 := (hf' 6 (by omega)).trans hq28
        have hq46 := (hf' 7 (by omega)).trans hq29
        have hq47 := (hf' 8 (by omega)).trans hq30
        have hq48 := (hf' 9 (by omega)).trans hq31
        have hq49 := (hf' 10 (by omega)).trans hq32
        have hq50 := (hf' 29 (by omega)).trans hq33
        have hq51 : ∀ s, s < 12 → u38[30 + 3 * s]? = some (ad (30 + 3 * s), nO ad s (pn s) (L s)) := fun s hs => (hf' (30 + 3 * s) (by omega)).trans (hq34 s hs)
        have hq52 : ∀ s, s < 12 → u38[31 + 3 * s]? = some (ad (31 + 3 * s), iN K 5 (pi s)) := fun s hs => (hf' (31 + 3 * s) (by omega)).trans (hq35 s hs)
        have hq53 : ∀ s, s < 12 → u38[32 + 3 * s]? = some (ad (32 + 3 * s), zA K (2 * n) (O s)) := fun s hs => (hf' (32 + 3 * s) (by omega)).trans (hq36 s hs)
        have fr54 := Fr.one hf'
        have hq55 : ∀ s, s < 12 → u38[30 + 3 * s]? = some (ad (30 + 3 * s), nO ad s (pn s) (((rnN nb bt n nc cap pn pi rounds.toNat ((us, ro, rl), hi)).2.1.2.2) s)) := fun s hs => by have h8 := hq51 s hs; rw [hE2]; exact h8
        have hq56 : ∀ s, s < 12 → u38[32 + 3 * s]? = some (ad (32 + 3 * s), zA K (2 * n) (((rnN nb bt n nc cap pn pi rounds.toNat ((us, ro, rl), hi)).2.1.2.1) s)) := fun s hs => by have h8 := hq53 s hs; rw [hE2]; exact h8
        refine q_iload_n hc 2 dX4_run_44 rfl ?_
        exact q_iretX (z := ((i : Nat) : Int)) hc (⟨_, _, _, congrArg iZ (by rw [hE1]), by omega, hq43, hq39, by rw [hE1]; exact hq40, hq47, hq48, hq49, hq55, hq56, (((fr0.trans fr12 (fun _ _ => by omega)).trans fr37 (fun _ _ => by omega)).trans fr54 (fun _ _ => by omega))⟩) hr hlk ⟨by decide, by decide⟩ dX4_run_45
      · refine q_aload_n hc 0 dX4_run_27 rfl ?_
        refine q_callPz (As := []) (rest := []) hc (c_X4_isDone l D K u3 ad nc (rc + i) w h n cap U pn L hq4 hq13 hq14 hq5 hq18 hq10 hn hnc hcap (hI9.us hnc) hpn hI9.2.2) (cwV 0 hc.1.2.2.2.2 gX4_run_X4_isDone rfl rfl rfl (by decide +kernel) ⟨Nat.le_of_ble_eq_true rfl, Nat.le_of_ble_eq_true rfl⟩) 0 hq4 rfl rfl rfl (by decide) dX4_run_28 ⟨Nat.le_of_ble_eq_true rfl, Nat.le_of_ble_eq_true rfl⟩ ?_
        refine q_ifz_ne hc 44 dX4_run_31 (by decide) (fun c59 => ?_) (fun c59 => ?_)
        · have hE : rnN nb bt n nc cap pn pi (rounds.toNat - i) ((U, O, L), hv) = (0, ((U, O, L), hv)) := rnN_stop c59
          have hE2 : (rnN nb bt n nc cap pn pi rounds.toNat ((us, ro, rl), hi)).2 = ((U, O, L), hv) := by rw [← hR, hE]
          have hE1 : (rnN nb bt n nc cap pn pi rounds.toNat ((us, ro, rl), hi)).1 = i := by rw [← hR2, hE]; rfl
          refine q_norm_iN (g := (rnN nb bt n nc cap pn pi rounds.toNat ((us, ro, rl), hi)).2.1.1) hc 3 hq5 (fun k _ => by rw [hE2]) (fun u60 hn' hf' => ?_)
          have hq61 : u60[3]? = some (ad 3, iN K (2 * n) ((rnN nb bt n nc cap pn pi rounds.toNat ((us, ro, rl), hi)).2.1.1)) := hn'
          have hq62 := (hf' 0 (by omega)).trans hq4
          have hq63 := (hf' 1 (by omega)).trans hq13
          have hq64 := (hf' 2 (by omega)).trans hq14
          have hq65 := (hf' 4 (by omega)).trans hq6
          have hq66 := (hf' 5 (by omega)).trans hq15
          have hq67 := (hf' 6 (by omega)).trans hq16
          have hq68 := (hf' 7 (by omega)).trans hq17
          have hq69 := (hf' 8 (by omega)).trans hq7
          have hq70 := (hf' 9 (by omega)).trans hq8
          have hq71 := (hf' 10 (by omega)).trans hq9
          have hq72 := (hf' 29 (by omega)).trans hq18
          have hq73 : ∀ s, s < 12 → u60[30 + 3 * s]? = some (ad (30 + 3 * s), nO ad s (pn s) (L s)) := fun s hs => (hf' (30 + 3 * s) (by omega)).trans (hq10 s hs)
          have hq74 : ∀ s, s < 12 → u60[31 + 3 * s]? = some (ad (31 + 3 * s), iN K 5 (pi s)) := fun s hs => (hf' (31 + 3 * s) (by omega)).trans (hq19 s hs)
          have hq75 : ∀ s, s < 12 → u60[32 + 3 * s]? = some (ad (32 + 3 * s), zA K (2 * n) (O s)) := fun s hs => (hf' (32 + 3 * s) (by omega)).trans (hq11 s hs)
          have fr76 := Fr.one hf'
          refine q_norm_iN (g := (rnN nb bt n nc cap pn pi rounds.toNat ((us, ro, rl), hi)).2.2) hc 4 hq65 (fun k _ => by rw [hE2]) (fun u77 hn' hf' => ?_)
          have hq78 : u77[4]? = some (ad 4, iN K (2 * n) ((rnN nb bt n nc cap pn pi rounds.toNat ((us, ro, rl), hi)).2.2)) := hn'
          have hq79 := (hf' 0 (by omega)).trans hq62
          have hq80 := (hf' 1 (by omega)).trans hq63
          have hq81 := (hf' 2 (by omega)).trans hq64
          have hq82 := (hf' 3 (by omega)).trans hq61
          have hq83 := (hf' 5 (by omega)).trans hq66
          have hq84 := (hf' 6 (by omega)).trans hq67
          have hq85 := (hf' 7 (by omega)).trans hq68
          have hq86 := (hf' 8 (by omega)).trans hq69
          have hq87 := (hf' 9 (by omega)).trans hq70
          have hq88 := (hf' 10 (by omega)).trans hq71
          have hq89 := (hf' 29 (by omega)).trans hq72
          have hq90 : ∀ s, s < 12 → u77[30 + 3 * s]? = some (ad (30 + 3 * s), nO ad s (pn s) (L s)) := fun s hs => (hf' (30 + 3 * s) (by omega)).trans (hq73 s hs)
          have hq91 : ∀ s, s < 12 → u77[31 + 3 * s]? = some (ad (31 + 3 * s), iN K 5 (pi s)) := fun s hs => (hf' (31 + 3 * s) (by omega)).trans (hq74 s hs)
          have hq92 : ∀ s, s < 12 → u77[32 + 3 * s]? = some (ad (32 + 3 * s), zA K (2 * n) (O s)) := fun s hs => (hf' (32 + 3 * s) (by omega)).trans (hq75 s hs)
          have fr93 := Fr.one hf'
          have hq94 : ∀ s, s < 12 → u77[30 + 3 * s]? = some (ad (30 + 3 * s), nO ad s (pn s) (((rnN nb bt n nc cap pn pi rounds.toNat ((us, ro, rl), hi)).2.1.2.2) s)) := fun s hs => by have h8 := hq90 s hs; rw [hE2]; exact h8
          have hq95 : ∀ s, s < 12 → u77[32 + 3 * s]? = some (ad (32 + 3 * s), zA K (2 * n) (((rnN nb bt n nc cap pn pi rounds.toNat ((us, ro, rl), hi)).2.1.2.1) s)) := fun s hs => by have h8 := hq92 s hs; rw [hE2]; exact h8
          refine q_iload_n hc 2 dX4_run_44 rfl ?_
          exact q_iretX (z := ((i : Nat) : Int)) hc (⟨_, _, _, congrArg iZ (by rw [hE1]), by omega, hq82, hq78, by rw [hE1]; exact hq79, hq86, hq87, hq88, hq94, hq95, (((fr0.trans fr12 (fun _ _ => by omega)).trans fr76 (fun _ _ => by omega)).trans fr93 (fun _ _ => by omega))⟩) hr hlk ⟨by decide, by decide⟩ dX4_run_45
        · refine q_aload_n hc 0 dX4_run_34 rfl ?_
          refine q_callMv (As := []) (rest := []) hc (c_X4_playRound l D K u3 ad nc (rc + i) w h n cap U hv cv dv tv _ _ pn L pi O hq4 hq13 hq14 hq5 hq6 hq15 hq16 hq17 hq7 hq8 hq9 hq18 hq10 hq19 hq11 hn hnc hNB hcap (fun k hk => by have := hhv k hk; omega) hpn hpin hI9) (cwV 0 hc.1.2.2.2.2 gX4_run_X4_playRound rfl rfl rfl (by decide +kernel) ⟨Nat.le_of_ble_eq_true rfl, Nat.le_of_ble_eq_true rfl⟩) 0 hq4 rfl rfl rfl (by decide) dX4_run_35 ⟨Nat.le_of_ble_eq_true rfl, Nat.le_of_ble_eq_true rfl⟩ (fun u96 hp' => ?_)
          obtain ⟨x98, x99, x100, hp'⟩ := hp'
          obtain ⟨hq101, hq102, hq103, hq104, hq105, hq106, hq107, hq108, fr109⟩ := hp'
          have hq110 := (fr109.at 1 (by omega)).trans hq13
          have hq111 := (fr109.at 2 (by omega)).trans hq14
          have hq112 := (fr109.at 5 (by omega)).trans hq15
          have hq113 := (fr109.at 6 (by omega)).trans hq16
          have hq114 := (fr109.at 7 (by omega)).trans hq17
          have hq115 := (fr109.at 29 (by omega)).trans hq18
          have hq116 : ∀ s, s < 12 → u96[31 + 3 * s]? = some (ad (31 + 3 * s), iN K 5 (pi s)) := fun s hs => (fr109.at (31 + 3 * s) (by omega)).trans (hq19 s hs)
          refine q_iincN (q := 2) hc 1 [(2, .int (iZ ((i + 1 : Nat) : Int))), (0, .ref (ad 0)), (1, .int (iZ rounds))] dX4_run_38 rfl rfl (by decide) rfl ?_
          refine q_goto hc 22 dX4_run_41 (by decide) ?_
          refine V.sub [1, 2, 0] rfl ?_
          exact ih22 (i + 1, (plS nb bt n cap hv pn pi (U, O, L) nc).1, (plS nb bt n cap hv pn pi (U, O, L) nc).2.1, (plS nb bt n cap hv pn pi (U, O, L) nc).2.2, fun k => hv k + (if 0 < (plS nb bt n cap hv pn pi (U, O, L) nc).1 k - cap k then 1 else 0), x98, x99, x100) _ (by omega) ⟨(by omega), (by rw [← hR, show rounds.toNat - i = (rounds.toNat - (i + 1)) + 1 by omega, rnN_go (show dnB n nc cap pn (U, O, L) = false from c59)]; rfl), (by rw [← hR2, show rounds.toNat - i = (rounds.toNat - (i + 1)) + 1 by omega, rnN_go (show dnB n nc cap pn (U, O, L) = false from c59)]; exact (by omega : ∀ a9 : Nat, i + 1 + a9 = i + (a9 + 1)) _), (hI9.pl hn nb bt _ (Nat.le_refl _)), (fun k hk => by have h9 := hhv k hk; show hv k + (if _ then 1 else 0) ≤ _; split <;> omega), (hq103), (hq101), (hq102), (hq104), (hq105), (hq106), (hq107), (hq108), ((fr12.trans fr109 (fun _ _ => by omega)))⟩
    · exact q_throw (text := "rounds are 0 .. 10") hc hXE hl hout hlk (by decide +kernel) (by decide +kernel) (by decide +kernel) (by decide) rfl (by decide +kernel) (by decide +kernel) (by decide +kernel) dX4_run_10 dX4_run_13 dX4_run_14 dX4_run_16 dX4_run_19 (by decide) (by decide) ⟨Nat.le_of_ble_eq_true rfl, Nat.le_of_ble_eq_true rfl⟩ ⟨by decide, by decide⟩ (⟨rfl, by omega⟩)

set_option maxRecDepth 100000 in
set_option maxHeartbeats 4000000 in
theorem c_X4_length (l : Launch) (hl : l.stackTraces = false) (D : va_G) (K : Nat → ClassId) (ws : va_W) (ad : Nat → Nat) (nc rc : Nat) (num : Int) (pn : Nat → Nat) (rl : Nat → Int) (h0 : ws[0]? = some (ad 0, xO ad nc rc)) (h29 : ws[29]? = some (ad 29, nA K 12 (nF ad))) (hN : ∀ s, s < 12 → ws[30 + 3 * s]? = some (ad (30 + 3 * s), nO ad s (pn s) (rl s))) (hnc : nc ≤ 12) (hnum : -2147483648 ≤ num ∧ num < 2147483648) : MXi l yX4_length wsX4_length ({ frames := 7, cells := 1, slots := 6, locals := 111 }) D K ws [.ref (ad 0), .int (iZ num)] 1 (fun r u => (r = (iZ (rl num.toNat))) ∧ (0 ≤ num ∧ num < (nc : Int)) ∧ (ws = u)) (fun E => E = "java/lang/IndexOutOfBoundsException" ∧ ¬ (0 ≤ num ∧ num < (nc : Int))) := by
  refine q_entXi RX4 [(0, .ref (ad 0)), (1, .int (iZ num))] (by decide) rfl rfl (Nat.le_of_ble_eq_true rfl) rfl ?_
  intro p e s m args below meth c hc hXE hout hr hlk
  have i3 : ∀ w ∈ u_ws RX3 TX3 4, w ∈ wsX4_length := by decide +kernel
  have f130 := hc.1.2.2.2.2 (.fieldLink RX4 130 "GlobalRoutes$Net" "routeLength" "I") (by decide +kernel)
  refine q_aload_n hc 0 dX4_length_0 rfl ?_
  refine q_iload_n hc 1 dX4_length_1 rfl ?_
  refine q_callXr (As := [.int (iZ num)]) (rest := []) hc hXE hout hlk (c_X4_checkedNet l hl D K ws ad nc rc num h0 h29 hnc hnum) (cwV 1 hc.1.2.2.2.2 gX4_length_X4_checkedNet rfl rfl rfl (by decide +kernel) ⟨Nat.le_of_ble_eq_true rfl, Nat.le_of_ble_eq_true rfl⟩) 0 h0 rfl rfl rfl (by decide) dX4_length_2 ⟨Nat.le_of_ble_eq_true rfl, Nat.le_of_ble_eq_true rfl⟩ ⟨by decide, by decide⟩ (fun E h => h) (fun r2 u1 hp' => ?_)
  obtain ⟨hr3, hx4, hw5⟩ := hp'; subst hw5; subst hr3
  have hq6 : ws[30 + 3 * num.toNat]? = some (ad (30 + 3 * num.toNat), nO ad num.toNat (pn num.toNat) (rl num.toNat)) := hN num.toNat (by omega)
  refine q_get hc (30 + 3 * num.toNat) 3 i3 hq6 rfl (by decide) f130 rfl rfl dX4_length_5 ?_
  exact q_iretX (z := rl num.toNat) hc (⟨rfl, hx4, rfl⟩) hr hlk ⟨by decide, by decide⟩ dX4_length_8

set_option maxRecDepth 100000 in
set_option maxHeartbeats 4000000 in
theorem c_X4_least (l : Launch) (hl : l.stackTraces = false) (D : va_G) (K : Nat → ClassId) (ws : va_W) (ad : Nat → Nat) (nc rc : Nat) (num : Int) (w h n : Nat) (pn : Nat → Nat) (rl : Nat → Int) (pi : Nat → Nat → Nat) (nb bt : Nat → Option Nat) (rw : Nat → Nat → Nat) (h0 : ws[0]? = some (ad 0, xO ad nc rc)) (h1 : ws[1]? = some (ad 1, gO ad w h n)) (h5 : ws[5]? = some (ad 5, iA K (4 * n) (fun k => oZ (nb k)))) (h11 : ws[11]? = some (ad 11, tO ad)) (h12 : ws[12]? = some (ad 12, rA K 16 (rF ad))) (hR : ∀ s, s < 16 → ws[13 + s]? = some (ad (13 + s), iN K n (rw s))) (h29 : ws[29]? = some (ad 29, nA K 12 (nF ad))) (hN : ∀ s, s < 12 → ws[30 + 3 * s]? = some (ad (30 + 3 * s), nO ad s (pn s) (rl s))) (hP : ∀ s, s < 12 → ws[31 + 3 * s]? = some (ad (31 + 3 * s), iN K 5 (pi s))) (hnc : nc ≤ 12) (hnum : -2147483648 ≤ num ∧ num < 2147483648) (hn : n ≤ 64) (hw : 0 < w ∧ w ≤ 8 ∧ h ≤ 8) (hNB : NB n nb bt) (hpn : ∀ j, j < nc → pn j ≤ 5) (hpin : ∀ j k, j < nc → k < pn j → pi j k < n) (hpif : ∀ j k, j < nc → pi j k < 64) (hrw : ∀ s k, rw s k ≤ 1000000000) : MXi l yX4_least wsX4_least ({ frames := 7, cells := 1, slots := 6, locals := 111 }) D K ws [.ref (ad 0), .int (iZ num)] 1 (fun r u => (r = (iZ ((lsV nb w n (pn num.toNat) (pi num.toNat) rw : Nat) : Int))) ∧ (0 ≤ num ∧ num < (nc : Int)) ∧ (∀ s, s < 16 → u[13 + s]? = some (ad (13 + s), iN K n ((lsR nb w n (pn num.toNat) (pi num.toNat) rw) s))) ∧ (Fr (fun j => (13 ≤ j ∧ j < 29)) ws u)) (fun E => E = "java/lang/IndexOutOfBoundsException" ∧ ¬ (0 ≤ num ∧ num < (nc : Int))) := by
  refine q_entXi RX4 [(0, .ref (ad 0)), (1, .int (iZ num))] (by decide) rfl rfl (Nat.le_of_ble_eq_true rfl) rfl ?_
  intro p e s m args below meth c hc hXE hout hr hlk
  have i4 : ∀ w ∈ u_ws RX4 TX4 6, w ∈ wsX4_least := by decide +kernel
  have f34 := hc.1.2.2.2.2 (.fieldLink RX4 34 "GlobalRoutes" "leastTable" "LGlobalRoutes$LeastTable;") (by decide +kernel)
  have fr0 : Fr (fun j => (13 ≤ j ∧ j < 29)) ws ws := Fr.rfl
  refine q_aload_n hc 0 dX4_least_0 rfl ?_
  refine q_get hc 0 2 i4 h0 rfl (by decide) f34 rfl rfl dX4_least_1 ?_
  refine q_aload_n hc 0 dX4_least_4 rfl ?_
  refine q_iload_n hc 1 dX4_least_5 rfl ?_
  refine q_callXr (As := [.int (iZ num)]) (rest := [.ref (ad 11)]) hc hXE hout hlk (c_X4_checkedNet l hl D K ws ad nc rc num h0 h29 hnc hnum) (cwV 1 hc.1.2.2.2.2 gX4_least_X4_checkedNet rfl rfl rfl (by decide +kernel) ⟨Nat.le_of_ble_eq_true rfl, Nat.le_of_ble_eq_true rfl⟩) 0 h0 rfl rfl rfl (by simp [Value.category]) dX4_least_6 ⟨Nat.le_of_ble_eq_true rfl, Nat.le_of_ble_eq_true rfl⟩ ⟨by decide, by decide⟩ (fun E h => h) (fun r2 u1 hp' => ?_)
  obtain ⟨hr3, hx4, hw5⟩ := hp'; subst hw5; subst hr3
  have hq6 : ws[30 + 3 * num.toNat]? = some (ad (30 + 3 * num.toNat), nO ad num.toNat (pn num.toNat) (rl num.toNat)) := hN num.toNat (by omega)
  have hq7 : ws[31 + 3 * num.toNat]? = some (ad (31 + 3 * num.toNat), iN K 5 (pi num.toNat)) := hP num.toNat (by omega)
  refine q_callMi (As := [.ref (ad (30 + 3 * num.toNat))]) (rest := []) hc (c_X2_leastOf l D K ws ad num.toNat (pn num.toNat) (rl num.toNat) w h n (pi num.toNat) _ _ rw h1 h5 h11 h12 hR hq6 hq7 hn hw hNB (hpn num.toNat (by omega)) (fun k hk => hpin num.toNat k (by omega) hk) (fun k9 => hpif num.toNat k9 (by omega)) hrw) (cwV 1 hc.1.2.2.2.2 gX4_least_X2_leastOf rfl rfl rfl (by decide +kernel) ⟨Nat.le_of_ble_eq_true rfl, Nat.le_of_ble_eq_true rfl⟩) 11 h11 rfl rfl rfl (by decide) dX4_least_9 ⟨Nat.le_of_ble_eq_true rfl, Nat.le_of_ble_eq_true rfl⟩ (fun r9 u8 hp' => ?_)
  obtain ⟨hr12, hq10, fr11⟩ := hp'
  have hq13 := (fr11.at 0 (by omega)).trans h0
  have hq14 := (fr11.at 1 (by omega)).trans h1
  have hq15 := (fr11.at 5 (by omega)).trans h5
  have hq16 := (fr11.at 11 (by omega)).trans h11
  have hq17 := (fr11.at 12 (by omega)).trans h12
  have hq18 := (fr11.at 29 (by omega)).trans h29
  have hq19 : ∀ s, s < 12 → u8[30 + 3 * s]? = some (ad (30 + 3 * s), nO ad s (pn s) (rl s)) := fun s hs => (fr11.at (30 + 3 * s) (by omega)).trans (hN s hs)
  have hq20 : ∀ s, s < 12 → u8[31 + 3 * s]? = some (ad (31 + 3 * s), iN K 5 (pi s)) := fun s hs => (fr11.at (31 + 3 * s) (by omega)).trans (hP s hs)
  subst hr12
  exact q_iretX (z := ((lsV nb w n (pn num.toNat) (pi num.toNat) rw : Nat) : Int)) hc (⟨rfl, hx4, hq10, (fr0.trans fr11 (fun _ _ => by omega))⟩) hr hlk ⟨by decide, by decide⟩ dX4_least_12

set_option maxRecDepth 100000 in
set_option maxHeartbeats 4000000 in
theorem c_X4_has (l : Launch) (hl : l.stackTraces = false) (D : va_G) (K : Nat → ClassId) (ws : va_W) (ad : Nat → Nat) (nc rc : Nat) (num : Int) (x y : Int) (d : Bool) (w h n : Nat) (pn : Nat → Nat) (rl : Nat → Int) (ro : Nat → Nat → Bool) (h0 : ws[0]? = some (ad 0, xO ad nc rc)) (h1 : ws[1]? = some (ad 1, gO ad w h n)) (h29 : ws[29]? = some (ad 29, nA K 12 (nF ad))) (hN : ∀ s, s < 12 → ws[30 + 3 * s]? = some (ad (30 + 3 * s), nO ad s (pn s) (rl s))) (hO : ∀ s, s < 12 → ws[32 + 3 * s]? = some (ad (32 + 3 * s), zA K (2 * n) (ro s))) (hnc : nc ≤ 12) (hnum : -2147483648 ≤ num ∧ num < 2147483648) (hx : -2147483648 ≤ x ∧ x < 2147483648) (hy : -2147483648 ≤ y ∧ y < 2147483648) (hn : n ≤ 64) (hw : 0 < w ∧ w ≤ 8 ∧ h ≤ 8) (hxy : ∀ x y, x < w → y < h → x + w * y < n) : MXi l yX4_has wsX4_has ({ frames := 7, cells := 2, slots := 12, locals := 113 }) D K ws [.ref (ad 0), .int (iZ num), .int (iZ x), .int (iZ y), .int (iZ (bZ d))] 2 (fun r u => (r = (iZ (bZ (ro num.toNat (bIx w x y d))))) ∧ (0 ≤ num ∧ num < (nc : Int)) ∧ (hB w h x y d = true) ∧ (ws = u)) (fun E => (E = "java/lang/IndexOutOfBoundsException" ∧ ¬ (0 ≤ num ∧ num < (nc : Int))) ∨ (E = "java/lang/IndexOutOfBoundsException" ∧ (0 ≤ num ∧ num < (nc : Int)) ∧ hB w h x y d = false)) := by
  refine q_entXi RX4 [(0, .ref (ad 0)), (1, .int (iZ num)), (2, .int (iZ x)), (3, .int (iZ y)), (4, .int (iZ (bZ d)))] (by decide) rfl rfl (Nat.le_of_ble_eq_true rfl) rfl ?_
  intro p e s m args below meth c hc hXE hout hr hlk
  have i3 : ∀ w ∈ u_ws RX3 TX3 4, w ∈ wsX4_has := by decide +kernel
  have f136 := hc.1.2.2.2.2 (.fieldLink RX4 136 "GlobalRoutes$Net" "route" "[Z") (by decide +kernel)
  refine q_aload_n hc 0 dX4_has_0 rfl ?_
  refine q_iload_n hc 1 dX4_has_1 rfl ?_
  refine q_callXr (As := [.int (iZ num)]) (rest := []) hc hXE hout hlk (c_X4_checkedNet l hl D K ws ad nc rc num h0 h29 hnc hnum) (cwV 1 hc.1.2.2.2.2 gX4_has_X4_checkedNet rfl rfl rfl (by decide +kernel) ⟨Nat.le_of_ble_eq_true rfl, Nat.le_of_ble_eq_true rfl⟩) 0 h0 rfl rfl rfl (by decide) dX4_has_2 ⟨Nat.le_of_ble_eq_true rfl, Nat.le_of_ble_eq_true rfl⟩ ⟨by decide, by decide⟩ (fun E h => Or.inl h) (fun r2 u1 hp' => ?_)
  obtain ⟨hr3, hx4, hw5⟩ := hp'; subst hw5; subst hr3
  have hok9 := hx4
  refine q_astore hc [(5, .ref (ad (30 + 3 * num.toNat))), (0, .ref (ad 0)), (1, .int (iZ num)), (2, .int (iZ x)), (3, .int (iZ y)), (4, .int (iZ (bZ d)))] dX4_has_5 (by decide) rfl ?_
  refine q_aload_n hc 1 dX4_has_7 rfl ?_
  refine q_iload_n hc 3 dX4_has_8 rfl ?_
  refine q_iload_n hc 4 dX4_has_9 rfl ?_
  refine q_iload hc 5 dX4_has_10 rfl ?_
  refine q_callXi (As := [.int (iZ x), .int (iZ y), .int (iZ (bZ d))]) (rest := []) hc hXE hout hlk (c_X4_checkedBorder l hl D K ws ad nc rc x y d w h n h0 h1 hx hy hn hw) (cwV 3 hc.1.2.2.2.2 gX4_has_X4_checkedBorder rfl rfl rfl (by decide +kernel) ⟨Nat.le_of_ble_eq_true rfl, Nat.le_of_ble_eq_true rfl⟩) 0 h0 rfl rfl rfl (by decide) dX4_has_12 ⟨Nat.le_of_ble_eq_true rfl, Nat.le_of_ble_eq_true rfl⟩ ⟨by decide, by decide⟩ (fun E h => Or.inr ⟨h.1, hok9, h.2⟩) (fun r7 u6 hp' => ?_)
  obtain ⟨hr8, hx9, hw10⟩ := hp'; subst hw10; subst hr8
  have hb9 := bIx_lt hxy hx9
  refine q_istore hc [(6, .int (iZ ((bIx w x y d : Nat) : Int))), (5, .ref (ad (30 + 3 * num.toNat))), (0, .ref (ad 0)), (1, .int (iZ num)), (2, .int (iZ x)), (3, .int (iZ y)), (4, .int (iZ (bZ d)))] dX4_has_15 (by decide) rfl ?_
  refine q_aload hc 1 dX4_has_17 rfl ?_
  have hq11 : ws[30 + 3 * num.toNat]? = some (ad (30 + 3 * num.toNat), nO ad num.toNat (pn num.toNat) (rl num.toNat)) := hN num.toNat (by omega)
  refine q_get hc (30 + 3 * num.toNat) 1 i3 hq11 rfl (by decide) f136 rfl rfl dX4_has_19 ?_
  refine q_iload hc 0 dX4_has_22 rfl ?_
  have hq12 : ws[32 + 3 * num.toNat]? = some (ad (32 + 3 * num.toNat), zA K (2 * n) (ro num.toNat)) := hO num.toNat (by omega)
  refine q_zald (j := bIx w x y d) hc (32 + 3 * num.toNat) hq12 rfl (by omega) (by omega) dX4_has_24 ?_
  exact q_zretX (b := (ro num.toNat) (bIx w x y d)) hc (⟨rfl, hok9, hx9, rfl⟩) hr hlk ⟨by decide, by decide⟩ dX4_has_25

set_option maxRecDepth 100000 in
set_option maxHeartbeats 4000000 in
theorem c_X4_border (l : Launch) (hl : l.stackTraces = false) (D : va_G) (K : Nat → ClassId) (ws : va_W) (ad : Nat → Nat) (nc rc : Nat) (x y : Int) (d : Bool) (w h n : Nat) (what : Int) (cap us hi : Nat → Nat) (h0 : ws[0]? = some (ad 0, xO ad nc rc)) (h1 : ws[1]? = some (ad 1, gO ad w h n)) (h2 : ws[2]? = some (ad 2, iN K (2 * n) cap)) (h3 : ws[3]? = some (ad 3, iN K (2 * n) us)) (h4 : ws[4]? = some (ad 4, iN K (2 * n) hi)) (hx : -2147483648 ≤ x ∧ x < 2147483648) (hy : -2147483648 ≤ y ∧ y < 2147483648) (hwhat : -2147483648 ≤ what ∧ what < 2147483648) (hn : n ≤ 64) (hw : 0 < w ∧ w ≤ 8 ∧ h ≤ 8) (hxy : ∀ x y, x < w → y < h → x + w * y < n) (hcap : ∀ k, k < 2 * n → cap k ≤ 20) (hus : ∀ k, k < 2 * n → us k ≤ 12) : MXi l yX4_border wsX4_border ({ frames := 7, cells := 2, slots := 12, locals := 113 }) D K ws [.ref (ad 0), .int (iZ x), .int (iZ y), .int (iZ (bZ d)), .int (iZ what)] 2 (fun r u => (r = (iZ ((bdV cap us hi (bIx w x y d) what.toNat : Nat) : Int))) ∧ (hB w h x y d = true) ∧ (0 ≤ what ∧ what < 4) ∧ (ws = u)) (fun E => (E = "java/lang/IndexOutOfBoundsException" ∧ hB w h x y d = false) ∨ (E = "java/lang/IllegalArgumentException" ∧ hB w h x y d = true ∧ ¬ (0 ≤ what ∧ what < 4))) := by
  refine q_entXi RX4 [(0, .ref (ad 0)), (1, .int (iZ x)), (2, .int (iZ y)), (3, .int (iZ (bZ d))), (4, .int (iZ what))] (by decide) rfl rfl (Nat.le_of_ble_eq_true rfl) rfl ?_
  intro p e s m args below meth c hc hXE hout hr hlk
  have i4 : ∀ w ∈ u_ws RX4 TX4 6, w ∈ wsX4_border := by decide +kernel
  have f18 := hc.1.2.2.2.2 (.fieldLink RX4 18 "GlobalRoutes" "grid" "LGlobalRoutes$Grid;") (by decide +kernel)
  have i0 : ∀ w ∈ u_ws RX0 TX0 9, w ∈ wsX4_border := by decide +kernel
  have f140 := hc.1.2.2.2.2 (.fieldLink RX4 140 "GlobalRoutes$Grid" "uses" "[I") (by decide +kernel)
  have f68 := hc.1.2.2.2.2 (.fieldLink RX4 68 "GlobalRoutes$Grid" "capacities" "[I") (by decide +kernel)
  have f127 := hc.1.2.2.2.2 (.fieldLink RX4 127 "GlobalRoutes$Grid" "histories" "[I") (by decide +kernel)
  refine q_aload_n hc 0 dX4_border_0 rfl ?_
  refine q_iload_n hc 1 dX4_border_1 rfl ?_
  refine q_iload_n hc 2 dX4_border_2 rfl ?_
  refine q_iload_n hc 3 dX4_border_3 rfl ?_
  refine q_callXi (As := [.int (iZ x), .int (iZ y), .int (iZ (bZ d))]) (rest := []) hc hXE hout hlk (c_X4_checkedBorder l hl D K ws ad nc rc x y d w h n h0 h1 hx hy hn hw) (cwV 3 hc.1.2.2.2.2 gX4_border_X4_checkedBorder rfl rfl rfl (by decide +kernel) ⟨Nat.le_of_ble_eq_true rfl, Nat.le_of_ble_eq_true rfl⟩) 0 h0 rfl rfl rfl (by decide) dX4_border_4 ⟨Nat.le_of_ble_eq_true rfl, Nat.le_of_ble_eq_true rfl⟩ ⟨by decide, by decide⟩ (fun E h => Or.inl h) (fun r2 u1 hp' => ?_)
  obtain ⟨hr3, hx4, hw5⟩ := hp'; subst hw5; subst hr3
  refine q_istore hc [(5, .int (iZ ((bIx w x y d : Nat) : Int))), (0, .ref (ad 0)), (1, .int (iZ x)), (2, .int (iZ y)), (3, .int (iZ (bZ d))), (4, .int (iZ what))] dX4_border_7 (by decide) rfl ?_
  have hb9 := bIx_lt hxy hx4
  refine q_iload hc 5 dX4_border_9 rfl ?_
  by_cases e0 : what = ((0 : Nat) : Int)
  · subst e0
    refine q_tabIn (j := 0) hc 40 dX4_border_11 (by decide) (by decide) rfl (by decide) ?_
    refine q_aload_n hc 1 dX4_border_40 rfl ?_
    refine q_get hc 0 0 i4 h0 rfl (by decide) f18 rfl rfl dX4_border_41 ?_
    refine q_get hc 1 5 i0 h1 rfl (by decide) f140 rfl rfl dX4_border_44 ?_
    refine q_iload hc 0 dX4_border_47 rfl ?_
    refine q_ialdN (j := bIx w x y d) hc 3 h3 rfl (by omega) (by omega) dX4_border_49 ?_
    exact q_iretX (z := ((us (bIx w x y d) : Nat) : Int)) hc (⟨rfl, hx4, by omega, rfl⟩) hr hlk ⟨by decide, by decide⟩ dX4_border_50
  · by_cases e1 : what = ((1 : Nat) : Int)
    · subst e1
      refine q_tabIn (j := 1) hc 51 dX4_border_11 (by decide) (by decide) rfl (by decide) ?_
      refine q_aload_n hc 1 dX4_border_51 rfl ?_
      refine q_get hc 0 0 i4 h0 rfl (by decide) f18 rfl rfl dX4_border_52 ?_
      refine q_get hc 1 4 i0 h1 rfl (by decide) f68 rfl rfl dX4_border_55 ?_
      refine q_iload hc 0 dX4_border_58 rfl ?_
      refine q_ialdN (j := bIx w x y d) hc 2 h2 rfl (by omega) (by omega) dX4_border_60 ?_
      exact q_iretX (z := ((cap (bIx w x y d) : Nat) : Int)) hc (⟨rfl, hx4, by omega, rfl⟩) hr hlk ⟨by decide, by decide⟩ dX4_border_61
    · by_cases e2 : what = ((2 : Nat) : Int)
      · subst e2
        refine q_tabIn (j := 2) hc 62 dX4_border_11 (by decide) (by decide) rfl (by decide) ?_
        refine q_aload_n hc 1 dX4_border_62 rfl ?_
        refine q_get hc 0 0 i4 h0 rfl (by decide) f18 rfl rfl dX4_border_63 ?_
        refine q_get hc 1 6 i0 h1 rfl (by decide) f127 rfl rfl dX4_border_66 ?_
        refine q_iload hc 0 dX4_border_69 rfl ?_
        refine q_ialdN (j := bIx w x y d) hc 4 h4 rfl (by omega) (by omega) dX4_border_71 ?_
        exact q_iretX (z := ((hi (bIx w x y d) : Nat) : Int)) hc (⟨rfl, hx4, by omega, rfl⟩) hr hlk ⟨by decide, by decide⟩ dX4_border_72
      · by_cases e3 : what = ((3 : Nat) : Int)
        · subst e3
          refine q_tabIn (j := 3) hc 73 dX4_border_11 (by decide) (by decide) rfl (by decide) ?_
          refine q_aload_n hc 1 dX4_border_73 rfl ?_
          refine q_get hc 0 0 i4 h0 rfl (by decide) f18 rfl rfl dX4_border_74 ?_
          refine q_iload hc 0 dX4_border_77 rfl ?_
          refine q_callPn (As := [.int (iZ ((bIx w x y d : Nat) : Int))]) (rest := []) hc (c_X0_excess l D K ws ad (bIx w x y d) w h n cap us h1 h2 h3 (by omega) hn hcap hus) (cwV 1 hc.1.2.2.2.2 gX4_border_X0_excess rfl rfl rfl (by decide +kernel) ⟨Nat.le_of_ble_eq_true rfl, Nat.le_of_ble_eq_true rfl⟩) 1 h1 rfl rfl rfl (by decide) dX4_border_79 ⟨Nat.le_of_ble_eq_true rfl, Nat.le_of_ble_eq_true rfl⟩ ?_
          exact q_iretX (z := ((us (bIx w x y d) - cap (bIx w x y d) : Nat) : Int)) hc (⟨rfl, hx4, by omega, rfl⟩) hr hlk ⟨by decide, by decide⟩ dX4_border_82
        · refine q_tabOut hc 83 dX4_border_11 (by omega) (by omega) (by decide) ?_
          exact q_throw (text := "of a border 0 .. 3 is told") hc hXE hl hout hlk (by decide +kernel) (by decide +kernel) (by decide +kernel) (by decide) rfl (by decide +kernel) (by decide +kernel) (by decide +kernel) dX4_border_83 dX4_border_86 dX4_border_87 dX4_border_89 dX4_border_92 (by decide) (by decide) ⟨Nat.le_of_ble_eq_true rfl, Nat.le_of_ble_eq_true rfl⟩ ⟨by decide, by decide⟩ (Or.inr ⟨rfl, hx4, by omega⟩)

set_option maxRecDepth 100000 in
set_option maxHeartbeats 4000000 in
theorem c_X4_line (l : Launch) (hl : l.stackTraces = false) (D : va_G) (K : Nat → ClassId) (ws : va_W) (ad : Nat → Nat) (nc rc : Nat) (d : Bool) (k what : Int) (w h n : Nat) (cap us : Nat → Nat) (pn : Nat → Nat) (rl : Nat → Int) (pi : Nat → Nat → Nat) (h0 : ws[0]? = some (ad 0, xO ad nc rc)) (h1 : ws[1]? = some (ad 1, gO ad w h n)) (h2 : ws[2]? = some (ad 2, iN K (2 * n) cap)) (h3 : ws[3]? = some (ad 3, iN K (2 * n) us)) (h29 : ws[29]? = some (ad 29, nA K 12 (nF ad))) (hN : ∀ s, s < 12 → ws[30 + 3 * s]? = some (ad (30 + 3 * s), nO ad s (pn s) (rl s))) (hP : ∀ s, s < 12 → ws[31 + 3 * s]? = some (ad (31 + 3 * s), iN K 5 (pi s))) (hk : -2147483648 ≤ k ∧ k < 2147483648) (hwhat : -2147483648 ≤ what ∧ what < 2147483648) (hn : n ≤ 64) (hw : 0 < w ∧ w ≤ 8 ∧ h ≤ 8) (hnc : nc ≤ 12) (hxy : ∀ x y, x < w → y < h → x + w * y < n) (hpn : ∀ j, j < nc → pn j ≤ 5) (hpif : ∀ j k, j < nc → pi j k < 64) : MXi l yX4_line wsX4_line ({ frames := 6, cells := 1, slots := 6, locals := 90 }) D K ws [.ref (ad 0), .int (iZ (bZ d)), .int (iZ k), .int (iZ what)] 1 (fun r u => (r = (iZ ((lnV w h nc cap us pn pi d k.toNat what.toNat : Nat) : Int))) ∧ ((0 ≤ k ∧ k < (lnK w h d : Int) - 1)) ∧ (0 ≤ what ∧ what < 3) ∧ (ws = u)) (fun E => (E = "java/lang/IndexOutOfBoundsException" ∧ ¬ (0 ≤ k ∧ k < (lnK w h d : Int) - 1)) ∨ (E = "java/lang/IllegalArgumentException" ∧ (0 ≤ k ∧ k < (lnK w h d : Int) - 1) ∧ ¬ (0 ≤ what ∧ what < 3))) := by
  refine q_entXi RX4 [(0, .ref (ad 0)), (1, .int (iZ (bZ d))), (2, .int (iZ k)), (3, .int (iZ what))] (by decide) rfl rfl (Nat.le_of_ble_eq_true rfl) rfl ?_
  intro p e s m args below meth c hc hXE hout hr hlk
  have i4 : ∀ w ∈ u_ws RX4 TX4 6, w ∈ wsX4_line := by decide +kernel
  have f18 := hc.1.2.2.2.2 (.fieldLink RX4 18 "GlobalRoutes" "grid" "LGlobalRoutes$Grid;") (by decide +kernel)
  have i0 : ∀ w ∈ u_ws RX0 TX0 9, w ∈ wsX4_line := by decide +kernel
  have f152 := hc.1.2.2.2.2 (.fieldLink RX4 152 "GlobalRoutes$Grid" "width" "I") (by decide +kernel)
  have f68 := hc.1.2.2.2.2 (.fieldLink RX4 68 "GlobalRoutes$Grid" "capacities" "[I") (by decide +kernel)
  have f140 := hc.1.2.2.2.2 (.fieldLink RX4 140 "GlobalRoutes$Grid" "uses" "[I") (by decide +kernel)
  have f149 := hc.1.2.2.2.2 (.fieldLink RX4 149 "GlobalRoutes$Grid" "height" "I") (by decide +kernel)
  refine q_iload_n hc 2 dX4_line_0 rfl ?_
  refine q_if_lt hc 31 dX4_line_1 (by decide) (by omega) (fun c1 => ?_) (fun c1 => ?_)
  · exact q_throw (text := "there is no such line") hc hXE hl hout hlk (by decide +kernel) (by decide +kernel) (by decide +kernel) (by decide) rfl (by decide +kernel) (by decide +kernel) (by decide +kernel) dX4_line_31 dX4_line_34 dX4_line_35 dX4_line_37 dX4_line_40 (by decide) (by decide) ⟨Nat.le_of_ble_eq_true rfl, Nat.le_of_ble_eq_true rfl⟩ ⟨by decide, by decide⟩ (Or.inl ⟨rfl, by omega⟩)
  · refine q_iload_n hc 2 dX4_line_4 rfl ?_
    refine q_iload_n hc 1 dX4_line_5 rfl ?_
    refine q_ifz_eq hc 19 dX4_line_6 (by decide) (fun c2 => ?_) (fun c2 => ?_)
    · subst c2
      refine q_aload_n hc 0 dX4_line_19 rfl ?_
      refine q_get hc 0 0 i4 h0 rfl (by decide) f18 rfl rfl dX4_line_20 ?_
      refine q_get hc 1 0 i0 h1 rfl (by decide) f152 rfl rfl dX4_line_23 ?_
      refine q_iconstN hc 1 dX4_line_26 rfl ?_
      refine q_isub hc dX4_line_27 ?_
      refine q_icmp_lt hc 41 dX4_line_28 (by decide) (by omega) (by omega) (fun c3 => ?_) (fun c3 => ?_)
      · have hk9 : 0 ≤ k ∧ k < (lnK w h false : Int) - 1 := ⟨by omega, by show k < (w : Int) - 1; omega⟩
        have hk8 : k.toNat < w := by omega
        refine q_iload_n hc 3 dX4_line_41 rfl ?_
        by_cases e0 : what = ((0 : Nat) : Int)
        · subst e0
          refine q_tabIn (j := 0) hc 68 dX4_line_42 (by decide) (by decide) rfl (by decide) ?_
          refine q_aload_n hc 0 dX4_line_68 rfl ?_
          refine q_iload_n hc 1 dX4_line_69 rfl ?_
          refine q_iload_n hc 2 dX4_line_70 rfl ?_
          refine V.topi (show _ = ((k.toNat : Nat) : Int) from by omega) ?_
          refine q_callPn (As := [.int (iZ (bZ false)), .int (iZ ((k.toNat : Nat) : Int))]) (rest := []) hc (c_X4_netsAcross l D K ws ad nc rc w h n k.toNat false pn rl pi h0 h1 h29 hN hP hn hw hnc hpn hpif (by omega)) (cwV 2 hc.1.2.2.2.2 gX4_line_X4_netsAcross rfl rfl rfl (by decide +kernel) ⟨Nat.le_of_ble_eq_true rfl, Nat.le_of_ble_eq_true rfl⟩) 0 h0 rfl rfl rfl (by decide) dX4_line_71 ⟨Nat.le_of_ble_eq_true rfl, Nat.le_of_ble_eq_true rfl⟩ ?_
          exact q_iretX (z := ((cnt (fun j => acr w false k.toNat (pn j) (pi j)) nc : Nat) : Int)) hc (⟨rfl, hk9, by omega, rfl⟩) hr hlk ⟨by decide, by decide⟩ dX4_line_74
        · by_cases e1 : what = ((1 : Nat) : Int)
          · subst e1
            refine q_tabIn (j := 1) hc 75 dX4_line_42 (by decide) (by decide) rfl (by decide) ?_
            refine q_aload_n hc 0 dX4_line_75 rfl ?_
            refine q_get hc 0 0 i4 h0 rfl (by decide) f18 rfl rfl dX4_line_76 ?_
            refine q_aload_n hc 0 dX4_line_79 rfl ?_
            refine q_get hc 0 0 i4 h0 rfl (by decide) f18 rfl rfl dX4_line_80 ?_
            refine q_get hc 1 4 i0 h1 rfl (by decide) f68 rfl rfl dX4_line_83 ?_
            refine q_iload_n hc 1 dX4_line_86 rfl ?_
            refine q_iload_n hc 2 dX4_line_87 rfl ?_
            refine V.topi (show _ = ((k.toNat : Nat) : Int) from by omega) ?_
            refine q_callPn (As := [.ref (ad 2), .int (iZ (bZ false)), .int (iZ ((k.toNat : Nat) : Int))]) (rest := []) hc (c_X0_sumOnLine l D K ws ad 2 k.toNat false w h n cap h1 h2 hn hw hxy (fun h9 => by cases h9) (fun _ => hk8)) (cwV 3 hc.1.2.2.2.2 gX4_line_X0_sumOnLine rfl rfl rfl (by decide +kernel) ⟨Nat.le_of_ble_eq_true rfl, Nat.le_of_ble_eq_true rfl⟩) 1 h1 rfl rfl rfl (by decide) dX4_line_88 ⟨Nat.le_of_ble_eq_true rfl, Nat.le_of_ble_eq_true rfl⟩ ?_
            exact q_iretX (z := ((sm (fun j => cap (lnB w k.toNat false j)) (lnN w h false) : Nat) : Int)) hc (⟨rfl, hk9, by omega, rfl⟩) hr hlk ⟨by decide, by decide⟩ dX4_line_91
          · by_cases e2 : what = ((2 : Nat) : Int)
            · subst e2
              refine q_tabIn (j := 2) hc 92 dX4_line_42 (by decide) (by decide) rfl (by decide) ?_
              refine q_aload_n hc 0 dX4_line_92 rfl ?_
              refine q_get hc 0 0 i4 h0 rfl (by decide) f18 rfl rfl dX4_line_93 ?_
              refine q_aload_n hc 0 dX4_line_96 rfl ?_
              refine q_get hc 0 0 i4 h0 rfl (by decide) f18 rfl rfl dX4_line_97 ?_
              refine q_get hc 1 5 i0 h1 rfl (by decide) f140 rfl rfl dX4_line_100 ?_
              refine q_iload_n hc 1 dX4_line_103 rfl ?_
              refine q_iload_n hc 2 dX4_line_104 rfl ?_
              refine V.topi (show _ = ((k.toNat : Nat) : Int) from by omega) ?_
              refine q_callPn (As := [.ref (ad 3), .int (iZ (bZ false)), .int (iZ ((k.toNat : Nat) : Int))]) (rest := []) hc (c_X0_sumOnLine l D K ws ad 3 k.toNat false w h n us h1 h3 hn hw hxy (fun h9 => by cases h9) (fun _ => hk8)) (cwV 3 hc.1.2.2.2.2 gX4_line_X0_sumOnLine rfl rfl rfl (by decide +kernel) ⟨Nat.le_of_ble_eq_true rfl, Nat.le_of_ble_eq_true rfl⟩) 1 h1 rfl rfl rfl (by decide) dX4_line_105 ⟨Nat.le_of_ble_eq_true rfl, Nat.le_of_ble_eq_true rfl⟩ ?_
              exact q_iretX (z := ((sm (fun j => us (lnB w k.toNat false j)) (lnN w h false) : Nat) : Int)) hc (⟨rfl, hk9, by omega, rfl⟩) hr hlk ⟨by decide, by decide⟩ dX4_line_108
            · refine q_tabOut hc 109 dX4_line_42 (by omega) (by omega) (by decide) ?_
              exact q_throw (text := "of a line 0 .. 2 is told") hc hXE hl hout hlk (by decide +kernel) (by decide +kernel) (by decide +kernel) (by decide) rfl (by decide +kernel) (by decide +kernel) (by decide +kernel) dX4_line_109 dX4_line_112 dX4_line_113 dX4_line_115 dX4_line_118 (by decide) (by decide) ⟨Nat.le_of_ble_eq_true rfl, Nat.le_of_ble_eq_true rfl⟩ ⟨by decide, by decide⟩ (Or.inr ⟨rfl, hk9, by omega⟩)
      · exact q_throw (text := "there is no such line") hc hXE hl hout hlk (by decide +kernel) (by decide +kernel) (by decide +kernel) (by decide) rfl (by decide +kernel) (by decide +kernel) (by decide +kernel) dX4_line_31 dX4_line_34 dX4_line_35 dX4_line_37 dX4_line_40 (by decide) (by decide) ⟨Nat.le_of_ble_eq_true rfl, Nat.le_of_ble_eq_true rfl⟩ ⟨by decide, by decide⟩ (Or.inl ⟨rfl, fun h9 => by have h8 : k < (w : Int) - 1 := h9.2; omega⟩)
    · subst c2
      refine q_aload_n hc 0 dX4_line_9 rfl ?_
      refine q_get hc 0 0 i4 h0 rfl (by decide) f18 rfl rfl dX4_line_10 ?_
      refine q_get hc 1 1 i0 h1 rfl (by decide) f149 rfl rfl dX4_line_13 ?_
      refine q_goto hc 26 dX4_line_16 (by decide) ?_
      refine q_iconstN hc 1 dX4_line_26 rfl ?_
      refine q_isub hc dX4_line_27 ?_
      refine q_icmp_lt hc 41 dX4_line_28 (by decide) (by omega) (by omega) (fun c10 => ?_) (fun c10 => ?_)
      · have hk9 : 0 ≤ k ∧ k < (lnK w h true : Int) - 1 := ⟨by omega, by show k < (h : Int) - 1; omega⟩
        have hk8 : k.toNat < h := by omega
        refine q_iload_n hc 3 dX4_line_41 rfl ?_
        by_cases e0 : what = ((0 : Nat) : Int)
        · subst e0
          refine q_tabIn (j := 0) hc 68 dX4_line_42 (by decide) (by decide) rfl (by decide) ?_
          refine q_aload_n hc 0 dX4_line_68 rfl ?_
          refine q_iload_n hc 1 dX4_line_69 rfl ?_
          refine q_iload_n hc 2 dX4_line_70 rfl ?_
          refine V.topi (show _ = ((k.toNat : Nat) : Int) from by omega) ?_
          refine q_callPn (As := [.int (iZ (bZ true)), .int (iZ ((k.toNat : Nat) : Int))]) (rest := []) hc (c_X4_netsAcross l D K ws ad nc rc w h n k.toNat true pn rl pi h0 h1 h29 hN hP hn hw hnc hpn hpif (by omega)) (cwV 2 hc.1.2.2.2.2 gX4_line_X4_netsAcross rfl rfl rfl (by decide +kernel) ⟨Nat.le_of_ble_eq_true rfl, Nat.le_of_ble_eq_true rfl⟩) 0 h0 rfl rfl rfl (by decide) dX4_line_71 ⟨Nat.le_of_ble_eq_true rfl, Nat.le_of_ble_eq_true rfl⟩ ?_
          exact q_iretX (z := ((cnt (fun j => acr w true k.toNat (pn j) (pi j)) nc : Nat) : Int)) hc (⟨rfl, hk9, by omega, rfl⟩) hr hlk ⟨by decide, by decide⟩ dX4_line_74
        · by_cases e1 : what = ((1 : Nat) : Int)
          · subst e1
            refine q_tabIn (j := 1) hc 75 dX4_line_42 (by decide) (by decide) rfl (by decide) ?_
            refine q_aload_n hc 0 dX4_line_75 rfl ?_
            refine q_get hc 0 0 i4 h0 rfl (by decide) f18 rfl rfl dX4_line_76 ?_
            refine q_aload_n hc 0 dX4_line_79 rfl ?_
            refine q_get hc 0 0 i4 h0 rfl (by decide) f18 rfl rfl dX4_line_80 ?_
            refine q_get hc 1 4 i0 h1 rfl (by decide) f68 rfl rfl dX4_line_83 ?_
            refine q_iload_n hc 1 dX4_line_86 rfl ?_
            refine q_iload_n hc 2 dX4_line_87 rfl ?_
            refine V.topi (show _ = ((k.toNat : Nat) : Int) from by omega) ?_
            refine q_callPn (As := [.ref (ad 2), .int (iZ (bZ true)), .int (iZ ((k.toNat : Nat) : Int))]) (rest := []) hc (c_X0_sumOnLine l D K ws ad 2 k.toNat true w h n cap h1 h2 hn hw hxy (fun _ => hk8) (fun h9 => by cases h9)) (cwV 3 hc.1.2.2.2.2 gX4_line_X0_sumOnLine rfl rfl rfl (by decide +kernel) ⟨Nat.le_of_ble_eq_true rfl, Nat.le_of_ble_eq_true rfl⟩) 1 h1 rfl rfl rfl (by decide) dX4_line_88 ⟨Nat.le_of_ble_eq_true rfl, Nat.le_of_ble_eq_true rfl⟩ ?_
            exact q_iretX (z := ((sm (fun j => cap (lnB w k.toNat true j)) (lnN w h true) : Nat) : Int)) hc (⟨rfl, hk9, by omega, rfl⟩) hr hlk ⟨by decide, by decide⟩ dX4_line_91
          · by_cases e2 : what = ((2 : Nat) : Int)
            · subst e2
              refine q_tabIn (j := 2) hc 92 dX4_line_42 (by decide) (by decide) rfl (by decide) ?_
              refine q_aload_n hc 0 dX4_line_92 rfl ?_
              refine q_get hc 0 0 i4 h0 rfl (by decide) f18 rfl rfl dX4_line_93 ?_
              refine q_aload_n hc 0 dX4_line_96 rfl ?_
              refine q_get hc 0 0 i4 h0 rfl (by decide) f18 rfl rfl dX4_line_97 ?_
              refine q_get hc 1 5 i0 h1 rfl (by decide) f140 rfl rfl dX4_line_100 ?_
              refine q_iload_n hc 1 dX4_line_103 rfl ?_
              refine q_iload_n hc 2 dX4_line_104 rfl ?_
              refine V.topi (show _ = ((k.toNat : Nat) : Int) from by omega) ?_
              refine q_callPn (As := [.ref (ad 3), .int (iZ (bZ true)), .int (iZ ((k.toNat : Nat) : Int))]) (rest := []) hc (c_X0_sumOnLine l D K ws ad 3 k.toNat true w h n us h1 h3 hn hw hxy (fun _ => hk8) (fun h9 => by cases h9)) (cwV 3 hc.1.2.2.2.2 gX4_line_X0_sumOnLine rfl rfl rfl (by decide +kernel) ⟨Nat.le_of_ble_eq_true rfl, Nat.le_of_ble_eq_true rfl⟩) 1 h1 rfl rfl rfl (by decide) dX4_line_105 ⟨Nat.le_of_ble_eq_true rfl, Nat.le_of_ble_eq_true rfl⟩ ?_
              exact q_iretX (z := ((sm (fun j => us (lnB w k.toNat true j)) (lnN w h true) : Nat) : Int)) hc (⟨rfl, hk9, by omega, rfl⟩) hr hlk ⟨by decide, by decide⟩ dX4_line_108
            · refine q_tabOut hc 109 dX4_line_42 (by omega) (by omega) (by decide) ?_
              exact q_throw (text := "of a line 0 .. 2 is told") hc hXE hl hout hlk (by decide +kernel) (by decide +kernel) (by decide +kernel) (by decide) rfl (by decide +kernel) (by decide +kernel) (by decide +kernel) dX4_line_109 dX4_line_112 dX4_line_113 dX4_line_115 dX4_line_118 (by decide) (by decide) ⟨Nat.le_of_ble_eq_true rfl, Nat.le_of_ble_eq_true rfl⟩ ⟨by decide, by decide⟩ (Or.inr ⟨rfl, hk9, by omega⟩)
      · exact q_throw (text := "there is no such line") hc hXE hl hout hlk (by decide +kernel) (by decide +kernel) (by decide +kernel) (by decide) rfl (by decide +kernel) (by decide +kernel) (by decide +kernel) dX4_line_31 dX4_line_34 dX4_line_35 dX4_line_37 dX4_line_40 (by decide) (by decide) ⟨Nat.le_of_ble_eq_true rfl, Nat.le_of_ble_eq_true rfl⟩ ⟨by decide, by decide⟩ (Or.inl ⟨rfl, fun h9 => by have h8 : k < (h : Int) - 1 := h9.2; omega⟩)

set_option maxRecDepth 100000 in
set_option maxHeartbeats 4000000 in
theorem c_X4_told (l : Launch) (hl : l.stackTraces = false) (D : va_G) (K : Nat → ClassId) (ws : va_W) (ad : Nat → Nat) (nc rc : Nat) (what : Int) (w h n : Nat) (cap us : Nat → Nat) (pn : Nat → Nat) (rl : Nat → Int) (h0 : ws[0]? = some (ad 0, xO ad nc rc)) (h1 : ws[1]? = some (ad 1, gO ad w h n)) (h2 : ws[2]? = some (ad 2, iN K (2 * n) cap)) (h3 : ws[3]? = some (ad 3, iN K (2 * n) us)) (h29 : ws[29]? = some (ad 29, nA K 12 (nF ad))) (hN : ∀ s, s < 12 → ws[30 + 3 * s]? = some (ad (30 + 3 * s), nO ad s (pn s) (rl s))) (hwhat : -2147483648 ≤ what ∧ what < 2147483648) (hn : n ≤ 64) (hnc : nc ≤ 12) (hcap : ∀ k, k < 2 * n → cap k ≤ 20) (hus : ∀ k, k < 2 * n → us k ≤ 12) (hrl : ∀ j, j < nc → -1 ≤ rl j ∧ rl j ≤ 128) : MXi l yX4_told wsX4_told ({ frames := 6, cells := 1, slots := 6, locals := 90 }) D K ws [.ref (ad 0), .int (iZ what)] 1 (fun r u => (r = (iZ ((tdV w h n nc rc cap us rl what.toNat : Nat) : Int))) ∧ (0 ≤ what ∧ what < 8) ∧ (ws = u)) (fun E => E = "java/lang/IllegalArgumentException" ∧ ¬ (0 ≤ what ∧ what < 8)) := by
  refine q_entXi RX4 [(0, .ref (ad 0)), (1, .int (iZ what))] (by decide) rfl rfl (Nat.le_of_ble_eq_true rfl) rfl ?_
  intro p e s m args below meth c hc hXE hout hr hlk
  have i4 : ∀ w ∈ u_ws RX4 TX4 6, w ∈ wsX4_told := by decide +kernel
  have f51 := hc.1.2.2.2.2 (.fieldLink RX4 51 "GlobalRoutes" "netCount" "I") (by decide +kernel)
  have f18 := hc.1.2.2.2.2 (.fieldLink RX4 18 "GlobalRoutes" "grid" "LGlobalRoutes$Grid;") (by decide +kernel)
  have i0 : ∀ w ∈ u_ws RX0 TX0 9, w ∈ wsX4_told := by decide +kernel
  have f152 := hc.1.2.2.2.2 (.fieldLink RX4 152 "GlobalRoutes$Grid" "width" "I") (by decide +kernel)
  have f149 := hc.1.2.2.2.2 (.fieldLink RX4 149 "GlobalRoutes$Grid" "height" "I") (by decide +kernel)
  have f54 := hc.1.2.2.2.2 (.fieldLink RX4 54 "GlobalRoutes" "roundCount" "I") (by decide +kernel)
  refine q_iload_n hc 1 dX4_told_0 rfl ?_
  by_cases e0 : what = ((0 : Nat) : Int)
  · subst e0
    refine q_tabIn (j := 0) hc 48 dX4_told_1 (by decide) (by decide) rfl (by decide) ?_
    refine q_aload_n hc 0 dX4_told_48 rfl ?_
    refine q_get hc 0 4 i4 h0 rfl (by decide) f51 rfl rfl dX4_told_49 ?_
    exact q_iretX (z := ((nc : Nat) : Int)) hc (⟨rfl, by omega, rfl⟩) hr hlk ⟨by decide, by decide⟩ dX4_told_52
  · by_cases e1 : what = ((1 : Nat) : Int)
    · subst e1
      refine q_tabIn (j := 1) hc 53 dX4_told_1 (by decide) (by decide) rfl (by decide) ?_
      refine q_aload_n hc 0 dX4_told_53 rfl ?_
      refine q_callPn (As := []) (rest := []) hc (c_X4_routedNets l D K ws ad nc rc pn rl h0 h29 hN hnc hrl) (cwV 0 hc.1.2.2.2.2 gX4_told_X4_routedNets rfl rfl rfl (by decide +kernel) ⟨Nat.le_of_ble_eq_true rfl, Nat.le_of_ble_eq_true rfl⟩) 0 h0 rfl rfl rfl (by decide) dX4_told_54 ⟨Nat.le_of_ble_eq_true rfl, Nat.le_of_ble_eq_true rfl⟩ ?_
      exact q_iretX (z := ((cnt (fun j => decide (¬ rl j = -1)) nc : Nat) : Int)) hc (⟨rfl, by omega, rfl⟩) hr hlk ⟨by decide, by decide⟩ dX4_told_57
    · by_cases e2 : what = ((2 : Nat) : Int)
      · subst e2
        refine q_tabIn (j := 2) hc 58 dX4_told_1 (by decide) (by decide) rfl (by decide) ?_
        refine q_aload_n hc 0 dX4_told_58 rfl ?_
        refine q_callPn (As := []) (rest := []) hc (c_X4_bordersOfRoutes l D K ws ad nc rc pn rl h0 h29 hN hnc hrl) (cwV 0 hc.1.2.2.2.2 gX4_told_X4_bordersOfRoutes rfl rfl rfl (by decide +kernel) ⟨Nat.le_of_ble_eq_true rfl, Nat.le_of_ble_eq_true rfl⟩) 0 h0 rfl rfl rfl (by decide) dX4_told_59 ⟨Nat.le_of_ble_eq_true rfl, Nat.le_of_ble_eq_true rfl⟩ ?_
        exact q_iretX (z := ((sm (fun j => (rl j).toNat) nc : Nat) : Int)) hc (⟨rfl, by omega, rfl⟩) hr hlk ⟨by decide, by decide⟩ dX4_told_62
      · by_cases e3 : what = ((3 : Nat) : Int)
        · subst e3
          refine q_tabIn (j := 3) hc 63 dX4_told_1 (by decide) (by decide) rfl (by decide) ?_
          refine q_aload_n hc 0 dX4_told_63 rfl ?_
          refine q_get hc 0 0 i4 h0 rfl (by decide) f18 rfl rfl dX4_told_64 ?_
          refine q_callPn (As := []) (rest := []) hc (c_X0_bordersOver l D K ws ad w h n cap us h1 h2 h3 hn hcap hus) (cwV 0 hc.1.2.2.2.2 gX4_told_X0_bordersOver rfl rfl rfl (by decide +kernel) ⟨Nat.le_of_ble_eq_true rfl, Nat.le_of_ble_eq_true rfl⟩) 1 h1 rfl rfl rfl (by decide) dX4_told_67 ⟨Nat.le_of_ble_eq_true rfl, Nat.le_of_ble_eq_true rfl⟩ ?_
          exact q_iretX (z := ((cnt (fun k => decide (0 < us k - cap k)) (2 * n) : Nat) : Int)) hc (⟨rfl, by omega, rfl⟩) hr hlk ⟨by decide, by decide⟩ dX4_told_70
        · by_cases e4 : what = ((4 : Nat) : Int)
          · subst e4
            refine q_tabIn (j := 4) hc 71 dX4_told_1 (by decide) (by decide) rfl (by decide) ?_
            refine q_aload_n hc 0 dX4_told_71 rfl ?_
            refine q_get hc 0 0 i4 h0 rfl (by decide) f18 rfl rfl dX4_told_72 ?_
            refine q_callPn (As := []) (rest := []) hc (c_X0_excessOfAll l D K ws ad w h n cap us h1 h2 h3 hn hcap hus) (cwV 0 hc.1.2.2.2.2 gX4_told_X0_excessOfAll rfl rfl rfl (by decide +kernel) ⟨Nat.le_of_ble_eq_true rfl, Nat.le_of_ble_eq_true rfl⟩) 1 h1 rfl rfl rfl (by decide) dX4_told_75 ⟨Nat.le_of_ble_eq_true rfl, Nat.le_of_ble_eq_true rfl⟩ ?_
            exact q_iretX (z := ((sm (fun k => us k - cap k) (2 * n) : Nat) : Int)) hc (⟨rfl, by omega, rfl⟩) hr hlk ⟨by decide, by decide⟩ dX4_told_78
          · by_cases e5 : what = ((5 : Nat) : Int)
            · subst e5
              refine q_tabIn (j := 5) hc 79 dX4_told_1 (by decide) (by decide) rfl (by decide) ?_
              refine q_aload_n hc 0 dX4_told_79 rfl ?_
              refine q_get hc 0 0 i4 h0 rfl (by decide) f18 rfl rfl dX4_told_80 ?_
              refine q_get hc 1 0 i0 h1 rfl (by decide) f152 rfl rfl dX4_told_83 ?_
              exact q_iretX (z := ((w : Nat) : Int)) hc (⟨rfl, by omega, rfl⟩) hr hlk ⟨by decide, by decide⟩ dX4_told_86
            · by_cases e6 : what = ((6 : Nat) : Int)
              · subst e6
                refine q_tabIn (j := 6) hc 87 dX4_told_1 (by decide) (by decide) rfl (by decide) ?_
                refine q_aload_n hc 0 dX4_told_87 rfl ?_
                refine q_get hc 0 0 i4 h0 rfl (by decide) f18 rfl rfl dX4_told_88 ?_
                refine q_get hc 1 1 i0 h1 rfl (by decide) f149 rfl rfl dX4_told_91 ?_
                exact q_iretX (z := ((h : Nat) : Int)) hc (⟨rfl, by omega, rfl⟩) hr hlk ⟨by decide, by decide⟩ dX4_told_94
              · by_cases e7 : what = ((7 : Nat) : Int)
                · subst e7
                  refine q_tabIn (j := 7) hc 95 dX4_told_1 (by decide) (by decide) rfl (by decide) ?_
                  refine q_aload_n hc 0 dX4_told_95 rfl ?_
                  refine q_get hc 0 5 i4 h0 rfl (by decide) f54 rfl rfl dX4_told_96 ?_
                  exact q_iretX (z := ((rc : Nat) : Int)) hc (⟨rfl, by omega, rfl⟩) hr hlk ⟨by decide, by decide⟩ dX4_told_99
                · refine q_tabOut hc 100 dX4_told_1 (by omega) (by omega) (by decide) ?_
                  exact q_throw (text := "0 .. 7 is told") hc hXE hl hout hlk (by decide +kernel) (by decide +kernel) (by decide +kernel) (by decide) rfl (by decide +kernel) (by decide +kernel) (by decide +kernel) dX4_told_100 dX4_told_103 dX4_told_104 dX4_told_106 dX4_told_109 (by decide) (by decide) ⟨Nat.le_of_ble_eq_true rfl, Nat.le_of_ble_eq_true rfl⟩ ⟨by decide, by decide⟩ (⟨rfl, by omega⟩)

set_option maxRecDepth 100000 in
set_option maxHeartbeats 4000000 in
theorem c_X4_nearest (l : Launch) (D : va_G) (K : Nat → ClassId) (ws : va_W) (ad : Nat → Nat) (q lo hi : Int) (hlo : -100 ≤ lo ∧ lo ≤ hi ∧ hi ≤ 100) (hq : -2147483648 ≤ q ∧ q < 2147483648) : MPi l yX4_nearest wsX4_nearest ({ frames := 1, cells := 0, slots := 0, locals := 21 }) D K ws [.int (iZ q), .int (iZ lo), .int (iZ hi)] (fun r => r = (iZ (nrZ q lo hi))) := by
  refine q_entPi RX4 [(0, .int (iZ q)), (1, .int (iZ lo)), (2, .int (iZ hi))] (by decide) rfl rfl (Nat.le_of_ble_eq_true rfl) rfl ?_
  intro p e s m args below meth c hc hr hlk
  have wa185 : Cond.methodLink RX4 185 Lib.Math.min.name ∈ wsX4_nearest := by decide +kernel
  have wbmin : Cond.static Lib.Math.min.name ∈ wsX4_nearest := by decide +kernel
  have wc : Cond.initialized "java/lang/Math" ∈ wsX4_nearest := by decide +kernel
  have wdmin : Cond.code Lib.Math.min.name Lib.Math.min.code 2 (some .int) ∈ wsX4_nearest := by decide +kernel
  have wa190 : Cond.methodLink RX4 190 Lib.Math.max.name ∈ wsX4_nearest := by decide +kernel
  have wbmax : Cond.static Lib.Math.max.name ∈ wsX4_nearest := by decide +kernel
  have wdmax : Cond.code Lib.Math.max.name Lib.Math.max.code 2 (some .int) ∈ wsX4_nearest := by decide +kernel
  refine q_iload_n hc 1 dX4_nearest_0 rfl ?_
  refine q_iload_n hc 2 dX4_nearest_1 rfl ?_
  refine q_iload_n hc 0 dX4_nearest_2 rfl ?_
  refine q_mmin hc wa185 wbmin wc wdmin (by decide) (by simp [Value.category]) ⟨Nat.zero_le _, Nat.zero_le _⟩ (by omega) (by omega) dX4_nearest_3 ?_
  refine q_mmax hc wa190 wbmax wc wdmax (by decide) (by simp [Value.category]) ⟨Nat.zero_le _, Nat.zero_le _⟩ (by omega) (by omega) dX4_nearest_6 ?_
  exact q_iretP (z := if lo < if q < hi then q else hi then if q < hi then q else hi else lo) hc (congrArg iZ (by unfold nrZ; split <;> split <;> omega)) hr hlk dX4_nearest_9
