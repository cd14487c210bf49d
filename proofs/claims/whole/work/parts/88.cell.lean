/-! the law's cell(script, k), its loop, and what holds at its start -/
def ceV (xs : Nat → Int32) (L k : Nat) : Int := if k < L then (xs k).toInt else 0
theorem ceV_r (xs : Nat → Int32) (L k : Nat) : -2147483648 ≤ ceV xs L k ∧ ceV xs L k < 2147483648 := by
  unfold ceV
  split
  · exact iZ_rng _
  · omega
set_option maxHeartbeats 4000000 in
theorem c_L_cell (l : Launch) (b L : Nat) (xs : Nat → Int32) (k : Nat) (hk : k < 10) (hL : L ≤ 2563) : MSi l yL_cell wsL_cell ({ frames := 0, cells := 0, slots := 0, locals := 0 }) b L xs [.ref b, .int (iZ ((k : Nat) : Int))] (ceV xs L k) := by
  refine Met.ofW (cc := cL_cell) (maxL := 2) (ret := some .int) (by decide) rfl ?_
  intro p e s m args below meth c s₁ B hml hv
  obtain ⟨rfl, hX⟩ := hv
  have hx := B.exec
  have hb := B.bytes
  have hr := B.returns
  have hlk := B.notSynchronized
  have hbl : b < s.heap.size := by
    obtain ⟨scr, h1, -⟩ := hX
    exact (Array.getElem?_eq_some_iff.mp h1).1
  have hl := lv_entry ([.ref b, .int (iZ ((k : Nat) : Int))]) (n := 2) (Nat.le_of_ble_eq_true rfl)
  rw [lg_entry_eq]
  generalize (lg_sl ([.ref b, .int (iZ ((k : Nat) : Int))]) ++ List.replicate (2 - (lg_sl ([.ref b, .int (iZ ((k : Nat) : Int))])).length) Slot.unset).toArray = ls at hl ⊢
  have hl : lv_has ls 2 [(0, .ref b), (1, .int (iZ ((k : Nat) : Int)))] := hl
  have hS : va_S (fun _ => False) s.heap s.heap [] := va_S.rf
  refine lv_iload_n hx hb dL_cell_0 rfl (lv_at hl 1 rfl) ?_
  refine lv_aload_n hx hb dL_cell_1 rfl (lv_at hl 0 rfl) ?_
  refine va_slen hx hb hX hbl (fun h => h) hS dL_cell_2 ?_
  have eL : Int32.ofNat L = iZ ((L : Nat) : Int) := Int32.ofInt_eq_ofNat.symm
  rw [eL]
  refine lv_icmp_ge hx hb (tgt := 12) dL_cell_3 (by decide) (fun z => ?_) (fun z => ?_)
  · have z9 := (iZ_le (by omega) (by omega)).mp z
    refine lv_iconst (v := iZ 0) hx hb dL_cell_12 rfl ?_
    exact W.iret hx hb hr (fun t ht _ => ⟨_, rfl, by unfold ceV; rw [if_neg (by omega)], ht⟩) (fun q hq => by cases hq) dL_cell_13 hlk
  · have z9 : ¬ ((L : Nat) : Int) ≤ ((k : Nat) : Int) := fun h => z ((iZ_le (by omega) (by omega)).mpr h)
    refine lv_aload_n hx hb dL_cell_6 rfl (lv_at hl 0 rfl) ?_
    refine lv_iload_n hx hb dL_cell_7 rfl (lv_at hl 1 rfl) ?_
    refine va_sld hx hb hX hbl (fun h => h) hS (iZ_in (show k < L by omega) (by omega)) dL_cell_8 ?_
    refine lv_goto hx hb (tgt := 13) dL_cell_9 (by decide) ?_
    rw [iZ_cl (show k < 2147483648 by omega)]
    exact W.iret hx hb hr (fun t ht _ => ⟨_, rfl, by unfold ceV; rw [if_pos (by omega), iZ_of], ht⟩) (fun q hq => by cases hq) dL_cell_13 hlk
