/-! what the law's start gives: exceptions, arrays, classes -/
theorem exB_in : ∀ w ∈ exB, w ∈ lw_tbl := by decide +kernel
theorem exS_in : ∀ q ∈ exS, Cond.stringRef RX4 q.1 q.2 ∈ lw_tbl := by decide +kernel
theorem exS_fl : ∀ q ∈ exS, Cond.exactly (Term.string RX4 q.1) "java/lang/String" ∈ flatC (Jvm.Cond.and given_1 narrow_1) := by decide +kernel
theorem exN_fl : ∀ q ∈ exN, Cond.not (Cond.castable q.1 q.2) ∈ flatC (Jvm.Cond.and given_1 narrow_1) := by decide +kernel
theorem lw_XE {s : State} {b : Nat} (hts : ∀ w ∈ lw_tbl, w.before #[Value.ref b] s = true) (hgv : (Jvm.Cond.and given_1 narrow_1).before #[Value.ref b] s = true) : XE (va_A [] s.heap.size) s s.heap := by
  have hs := flat_of_before _ hgv
  have hA : ∀ a : Nat, a < s.heap.size → ¬ va_A [] s.heap.size a := fun a h => no_A h
  refine ⟨vx_Zqof (hts (.laysStatic Bundle.tN "UNASSIGNED_STACK" Bundle.steD) (by decide +kernel)) (hts (.initialized Bundle.tN) (by decide +kernel)) (hs (.isRef (.static Bundle.tN "UNASSIGNED_STACK" Bundle.steD)) (by decide +kernel)) hA, vx_Zqof (hts (.laysStatic Bundle.tN "SUPPRESSED_SENTINEL" Bundle.listD) (by decide +kernel)) (hts (.initialized Bundle.tN) (by decide +kernel)) (hs (.isRef (.static Bundle.tN "SUPPRESSED_SENTINEL" Bundle.listD)) (by decide +kernel)) hA, fun w hw => va_Nw.of (exB_on w hw) (hts w (exB_in w hw)), fun q hq => ?_, fun q hq => va_Nc.of (hs _ (exN_fl q hq))⟩
  obtain ⟨a, c9, cell, k9, h1, -⟩ := Cond.exactly_spec (hs _ (exS_fl q hq))
  exact ⟨a, vk_R.of (hts _ (exS_in q hq)) h1⟩
theorem lw_AO {s : State} {b : Nat} (hts : ∀ w ∈ lw_tbl, w.before #[Value.ref b] s = true) : AOs s := ⟨va_AO.of (hts (.arrayOver (.object "GlobalRoutes$Net")) (by decide +kernel)), hts (.arrayOver (.array .int)) (by decide +kernel)⟩
theorem lw_arr {s : State} {args : Array Value} {ty : FieldType} (h : (Cond.arrayClass ty).before args s = true) : ∃ c, ArrOfT s c ty ∧ s.vm.findClass ("[" ++ ty.toString) = some c := by
  obtain ⟨c, k, comp, h1, h2, h3⟩ := Cond.arrayClass_spec h
  exact ⟨c, fun n z => ⟨fun q hq => (by cases hq), k, h2, comp, h3⟩, h1⟩
theorem lw_K {s : State} {b : Nat} (hts : ∀ w ∈ lw_tbl, w.before #[Value.ref b] s = true) : ∃ (D : va_G) (K : Nat → ClassId), va_K D vwCl (tyG K) s := by
  have hw : ∀ w ∈ wsL_law, w.before #[Value.ref b] s = true := fun w h => hts w (wsL_law_in w h)
  obtain ⟨d0, i0, k0⟩ := u_known (n := 9) hw inlX0 (hts (.instantiable RX0 9) (by decide +kernel))
  obtain ⟨d1, i1, k1⟩ := u_known (n := 4) hw inlX1 (hts (.instantiable RX1 4) (by decide +kernel))
  obtain ⟨d2, i2, k2⟩ := u_known (n := 2) hw inlX2 (hts (.instantiable RX2 2) (by decide +kernel))
  obtain ⟨d3, i3, k3⟩ := u_known (n := 4) hw inlX3 (hts (.instantiable RX3 4) (by decide +kernel))
  obtain ⟨d4, i4, k4⟩ := u_known (n := 6) hw inlX4 (hts (.instantiable RX4 6) (by decide +kernel))
  obtain ⟨d5, i5, k5⟩ := u_known (n := 16) hw inlX5 (hts (.instantiable RX5 16) (by decide +kernel))
  obtain ⟨cI, aI, fI⟩ := lw_arr (hts (.arrayClass .int) (by decide +kernel))
  obtain ⟨cZ, aZ, fZ⟩ := lw_arr (hts (.arrayClass .boolean) (by decide +kernel))
  obtain ⟨cJ, aJ, fJ⟩ := lw_arr (hts (.arrayClass .long) (by decide +kernel))
  obtain ⟨compN, cN, kN, n1, -, n2, n3, n4⟩ := Cond.arrayOver_spec (hts (.arrayOver (.object "GlobalRoutes$Net")) (by decide +kernel))
  obtain ⟨compR, cR, kR, r1, -, r2, r3, r4⟩ := arrayOverA_spec (hts (.arrayOver (.array .int)) (by decide +kernel))
  refine ⟨(fun q => match q with | 0 => d0 | 1 => d1 | 2 => d2 | 3 => d3 | 4 => d4 | _ => d5, fun q => match q with | 0 => i0 | 1 => i1 | 2 => i2 | 3 => i3 | 4 => i4 | _ => i5), fun q => match q with | 0 => cI | 1 => cZ | 2 => cJ | 3 => cN | _ => cR, fun q r hq => ?_, fun q r hq => ?_⟩
  · rcases q with _ | _ | _ | _ | _ | _ | q
    · cases hq; exact k0
    · cases hq; exact k1
    · cases hq; exact k2
    · cases hq; exact k3
    · cases hq; exact k4
    · cases hq; exact k5
    · cases hq
  · rcases q with _ | _ | _ | _ | _ | q
    · cases hq; exact ⟨aI, fI⟩
    · cases hq; exact ⟨aZ, fZ⟩
    · cases hq; exact ⟨aJ, fJ⟩
    · cases hq
      exact ⟨fun n z => ⟨fun q hq => (by cases hq), kN, n2, compN, n3⟩, kN, compN, n2, n3, n1, n4⟩
    · cases hq
      exact ⟨fun n z => ⟨fun q hq => (by cases hq), kR, r2, compR, r3⟩, r4⟩
    · cases hq
