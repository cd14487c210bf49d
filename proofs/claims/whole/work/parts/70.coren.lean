/-! constructors: new cells stand at the world's end, at addresses that follow one another -/
def AOs (U : State) : Prop := va_AO "GlobalRoutes$Net" U ∧ (Cond.arrayOver (.array .int)).before #[] U = true
theorem AOs.moved {u U : State} (hvm : u.vm.Alike U.vm) (h : AOs u) : AOs U := ⟨va_AO.moved hvm h.1, over_moved hvm h.2⟩
def PCn (D : va_G) (K : Nat → ClassId) (ws : va_W) (sz : Nat) (as : List Value) : Array Value → State → Prop := va_Pc as (fun U => U.heap.size = sz ∧ va_P D vwCl ws U.heap ∧ va_K D vwCl (tyG K) U ∧ va_D (fun _ => True) ws ∧ AOs U)
theorem PCn.blind {D : va_G} {K : Nat → ClassId} {ws : va_W} {sz : Nat} {as : List Value} : FrameBlind (PCn D K ws sz as) := fun a U g mk q => ⟨q.1, q.2.1, q.2.2.1, va_K.moved (u := U) (U := U.calling g mk a) (Vm.Alike.refl U.vm) q.2.2.2.1, q.2.2.2.2.1, AOs.moved (u := U) (U := U.calling g mk a) (Vm.Alike.refl U.vm) q.2.2.2.2.2⟩
abbrev MNv (l : Launch) (y : MethodName) (w : List Cond) (rm : Room) (D : va_G) (K : Nat → ClassId) (ws : va_W) (as : List Value) (sz mc ms : Nat) (post : va_W → Prop) : Prop := Met l y w rm (PCn D K ws sz as) (va_Qv post (PBm D ws sz) (va_A ws sz)) mc ms (va_A ws sz)
/-- no fewer cells stand than were made -/
def Lo (D : va_G) (ws : va_W) (z k : Nat) : Prop := ∀ H : Heap, va_P D vwCl ws H → z ≤ H.size → z + k ≤ H.size
theorem Lo.of {D : va_G} {ws : va_W} {z k q a : Nat} {x : va_E} (h : ws[q]? = some (a, x)) (ha : z + k = a + 1) : Lo D ws z k := fun H hP _ => by
  have h1 : a < H.size := vx_lt hP h
  omega
theorem len_of {ws : va_W} {k L : Nat} {x : Nat × va_E} (h1 : ws[k]? = some x) (h2 : ws[L]? = none) (h0 : L = k + 1) : ws.length = L := by
  have h3 := (List.getElem?_eq_some_iff.mp h1).1
  have h4 := List.getElem?_eq_none_iff.mp h2
  omega
theorem ap_at {ws : va_W} {L : Nat} (hlen : ws.length = L) (x : Nat × va_E) : (ws ++ [x])[L]? = some x := by
  subst hlen
  simp
theorem ap_ne {ws : va_W} {L : Nat} (hlen : ws.length = L) (x : Nat × va_E) : ∀ i, i ≠ L → (ws ++ [x])[i]? = ws[i]? := by
  intro i hi
  subst hlen
  rcases Nat.lt_or_gt_of_ne hi with h | h
  · exact List.getElem?_append_left h
  · rw [List.getElem?_eq_none (by simp; omega), List.getElem?_eq_none (by omega)]
theorem jZ_0 : jZ 0 = 0 := by decide +kernel
theorem iZ_nn {n : Nat} (h : n < 2147483648) : ¬ iZ (n : Int) < 0 := by
  rw [← iZ_0, iZ_lt (by omega) (by omega)]
  omega
section NR
variable {p : Program} {l : Launch} {e : Env} {R : Room} {s : State} {m : MethodId} {args : Array Value} {below : List Frame} {meth : Method} {c : Code} {nL cells slots : Nat} {Q : State → Prop} {Hp : va_W → Heap → List Loc → Prop} {ws : va_W} {lv : List (Nat × Value)} {pc : Nat} {st : List Value}
variable {cc : ByteArray} {Ts : List Cond} {own : String} {D : va_G} {K : Nat → ClassId} {A : Nat → Prop}
theorem V.loopC {α : Type} (μ : α → Nat) (cf sf : α → Nat) (I : α → va_W → Prop) (lvf : α → List (Nat × Value)) (a0 : α) (hc0 : cells = cf a0) (hs0 : slots = sf a0) (h0 : I a0 ws) (hlv : lv = lvf a0) (h : ∀ a, (∀ b ws', μ b < μ a → I b ws' → V p l e R s m args below meth c nL (cf b) (sf b) Q Hp ws' (lvf b) pc st) → ∀ ws', I a ws' → V p l e R s m args below meth c nL (cf a) (sf a) Q Hp ws' (lvf a) pc st) : V p l e R s m args below meth c nL cells slots Q Hp ws lv pc st := by
  subst hlv
  subst hc0
  subst hs0
  have key : ∀ n a, μ a < n → ∀ ws', I a ws' → V p l e R s m args below meth c nL (cf a) (sf a) Q Hp ws' (lvf a) pc st := by
    intro n
    induction n with
    | zero => intro a ha; exact absurd ha (Nat.not_lt_zero _)
    | succ n ih => intro a ha ws' hI; exact h a (fun b w9 hb hI' => ih b (by omega) w9 hI') ws' hI
  exact key _ a0 (Nat.lt_succ_self _) ws h0
theorem V.widen {k n : Nat} (h1 : cells ≤ k) (h2 : slots ≤ n) (kk : V p l e R s m args below meth c nL k n Q Hp ws lv pc st) : V p l e R s m args below meth c nL cells slots Q Hp ws lv pc st := fun H locs ls hH h => W.widen h1 h2 (kk H locs ls hH h)
theorem V.join {lv' : List (Nat × Value)} {pc' : Nat} {st' : List Value} (j : V p l e R s m args below meth c nL cells slots Q Hp ws lv' pc' st') (k : V p l e R s m args below meth c nL cells slots Q Hp ws lv' pc' st' → V p l e R s m args below meth c nL cells slots Q Hp ws lv pc st) : V p l e R s m args below meth c nL cells slots Q Hp ws lv pc st := k j
theorem V.cs {k n : Nat} (h1 : cells = k) (h2 : slots = n) (kk : V p l e R s m args below meth c nL k n Q Hp ws lv pc st) : V p l e R s m args below meth c nL cells slots Q Hp ws lv pc st := by
  subst h1
  subst h2
  exact kk
theorem hs_eq {T : State} {H : Heap} {locs : List Loc} (X : Stand p l e R s m args below meth c T locs cells slots) (hT : T.heap = H) (hP : va_P D vwCl ws H) (h0 : s.heap.size ≤ H.size) (hlow : Lo D ws s.heap.size cells) : H.size = s.heap.size + cells := by
  have h1 := hlow H hP h0
  have h2 : T.heap.size ≤ s.heap.size + cells := X.same.2.2.1
  rw [hT] at h2
  exact Nat.le_antisymm h2 h1
theorem q_newI (hc : Cx p s m args c cc nL Ts own D K (hpM D A s.heap)) {n : Nat} {L b : Nat} (hlen : ws.length = L) (hlow : Lo D ws s.heap.size cells) (hb : b = s.heap.size + cells) (harr : Cond.arrayClass .int ∈ Ts) (hn : n ≤ 16777216) (hrm : cells + 1 ≤ R.cells ∧ slots + n ≤ R.slots) (hd : decode cc pc = .ok (.newarray .int, 2)) (k : ∀ ws' : va_W, ws'[L]? = some (b, iA K n (fun _ => 0)) → (∀ i, i ≠ L → ws'[i]? = ws[i]?) → V p l e R s m args below meth c nL (cells + 1) (slots + n) Q (hpM D A s.heap) ws' lv (pc + 2) (.ref b :: st)) : V p l e R s m args below meth c nL cells slots Q (hpM D A s.heap) ws lv (pc) (.int (iZ (n : Int)) :: st) := fun H locs ls hH h => by
  intro T hT X
  have hz := hs_eq X hT hH.1 hH.2.2.1.1 hlow
  have hz' : b = H.size := hb.trans hz.symm
  subst hz'
  have hby : n * componentBytes (newarray.typeOf .int) ≤ 536870912 := by
    show n * 4 ≤ 536870912
    omega
  refine va_newaK hc.1.1 hc.1.2.1 (atype := .int) (hc.1.2.2.2.2 _ harr) (g := F0 m pc ls (.int (iZ (n : Int)) :: st)) rfl hd rfl (iZ_nn (by omega)) (iZ_cl (by omega)) hby hrm.1 hrm.2 rfl (fun H1 cA e1 z1 o1 hAr hNm => ?_) T hT X
  have hcA : cA = K 0 := Option.some.inj (hNm.symm.trans (hc.2.1.2 0 _ rfl).2)
  subst hcA
  refine k (ws ++ [(H.size, iA K n (fun _ => 0))]) (ap_at hlen _) (ap_ne hlen _) H1 locs ls ⟨(hH.1.kept (fun k x hx => o1 x.1 ((hH.1 k x hx).lt))).app (fun k x hx => ?_), hH.2.1.push hH.1 rfl (hH.2.2.2 _ hH.2.2.1.1), ⟨Nat.le_trans hH.2.2.1.1 (by omega), fun x h1 h2 => (o1 x (Nat.lt_of_lt_of_le h1 hH.2.2.1.1)).trans (hH.2.2.1.2.1 x h1 h2), hH.2.2.1.2.2⟩, hH.2.2.2⟩ h
  have hz9 : k < 1 := (List.getElem?_eq_some_iff.mp hx).1
  rw [show k = 0 by omega] at hx
  cases hx
  show H1[H.size]? = some (vp_cell _ _)
  rw [e1, vp_cell_i]
  exact congrArg some (arrV_congr (fun j _ => congrArg Value.int iZ_0.symm))
theorem q_newZ (hc : Cx p s m args c cc nL Ts own D K (hpM D A s.heap)) {n : Nat} {L b : Nat} (hlen : ws.length = L) (hlow : Lo D ws s.heap.size cells) (hb : b = s.heap.size + cells) (harr : Cond.arrayClass .boolean ∈ Ts) (hn : n ≤ 16777216) (hrm : cells + 1 ≤ R.cells ∧ slots + n ≤ R.slots) (hd : decode cc pc = .ok (.newarray .boolean, 2)) (k : ∀ ws' : va_W, ws'[L]? = some (b, zA K n (fun _ => false)) → (∀ i, i ≠ L → ws'[i]? = ws[i]?) → V p l e R s m args below meth c nL (cells + 1) (slots + n) Q (hpM D A s.heap) ws' lv (pc + 2) (.ref b :: st)) : V p l e R s m args below meth c nL cells slots Q (hpM D A s.heap) ws lv (pc) (.int (iZ (n : Int)) :: st) := fun H locs ls hH h => by
  intro T hT X
  have hz := hs_eq X hT hH.1 hH.2.2.1.1 hlow
  have hz' : b = H.size := hb.trans hz.symm
  subst hz'
  have hby : n * componentBytes (newarray.typeOf .boolean) ≤ 536870912 := by
    show n * 1 ≤ 536870912
    omega
  refine va_newaK hc.1.1 hc.1.2.1 (atype := .boolean) (hc.1.2.2.2.2 _ harr) (g := F0 m pc ls (.int (iZ (n : Int)) :: st)) rfl hd rfl (iZ_nn (by omega)) (iZ_cl (by omega)) hby hrm.1 hrm.2 rfl (fun H1 cA e1 z1 o1 hAr hNm => ?_) T hT X
  have hcA : cA = K 1 := Option.some.inj (hNm.symm.trans (hc.2.1.2 1 _ rfl).2)
  subst hcA
  refine k (ws ++ [(H.size, zA K n (fun _ => false))]) (ap_at hlen _) (ap_ne hlen _) H1 locs ls ⟨(hH.1.kept (fun k x hx => o1 x.1 ((hH.1 k x hx).lt))).app (fun k x hx => ?_), hH.2.1.push hH.1 rfl (hH.2.2.2 _ hH.2.2.1.1), ⟨Nat.le_trans hH.2.2.1.1 (by omega), fun x h1 h2 => (o1 x (Nat.lt_of_lt_of_le h1 hH.2.2.1.1)).trans (hH.2.2.1.2.1 x h1 h2), hH.2.2.1.2.2⟩, hH.2.2.2⟩ h
  have hz9 : k < 1 := (List.getElem?_eq_some_iff.mp hx).1
  rw [show k = 0 by omega] at hx
  cases hx
  show H1[H.size]? = some (vp_cell _ _)
  rw [e1, vp_cell_i]
  exact congrArg some (arrV_congr (fun j _ => congrArg Value.int iZ_0.symm))
theorem q_newJ (hc : Cx p s m args c cc nL Ts own D K (hpM D A s.heap)) {n : Nat} {L b : Nat} (hlen : ws.length = L) (hlow : Lo D ws s.heap.size cells) (hb : b = s.heap.size + cells) (harr : Cond.arrayClass .long ∈ Ts) (hn : n ≤ 16777216) (hrm : cells + 1 ≤ R.cells ∧ slots + n ≤ R.slots) (hd : decode cc pc = .ok (.newarray .long, 2)) (k : ∀ ws' : va_W, ws'[L]? = some (b, jA K n (fun _ => 0)) → (∀ i, i ≠ L → ws'[i]? = ws[i]?) → V p l e R s m args below meth c nL (cells + 1) (slots + n) Q (hpM D A s.heap) ws' lv (pc + 2) (.ref b :: st)) : V p l e R s m args below meth c nL cells slots Q (hpM D A s.heap) ws lv (pc) (.int (iZ (n : Int)) :: st) := fun H locs ls hH h => by
  intro T hT X
  have hz := hs_eq X hT hH.1 hH.2.2.1.1 hlow
  have hz' : b = H.size := hb.trans hz.symm
  subst hz'
  have hby : n * componentBytes (newarray.typeOf .long) ≤ 536870912 := by
    show n * 8 ≤ 536870912
    omega
  refine va_newaK hc.1.1 hc.1.2.1 (atype := .long) (hc.1.2.2.2.2 _ harr) (g := F0 m pc ls (.int (iZ (n : Int)) :: st)) rfl hd rfl (iZ_nn (by omega)) (iZ_cl (by omega)) hby hrm.1 hrm.2 rfl (fun H1 cA e1 z1 o1 hAr hNm => ?_) T hT X
  have hcA : cA = K 2 := Option.some.inj (hNm.symm.trans (hc.2.1.2 2 _ rfl).2)
  subst hcA
  refine k (ws ++ [(H.size, jA K n (fun _ => 0))]) (ap_at hlen _) (ap_ne hlen _) H1 locs ls ⟨(hH.1.kept (fun k x hx => o1 x.1 ((hH.1 k x hx).lt))).app (fun k x hx => ?_), hH.2.1.push hH.1 rfl (hH.2.2.2 _ hH.2.2.1.1), ⟨Nat.le_trans hH.2.2.1.1 (by omega), fun x h1 h2 => (o1 x (Nat.lt_of_lt_of_le h1 hH.2.2.1.1)).trans (hH.2.2.1.2.1 x h1 h2), hH.2.2.1.2.2⟩, hH.2.2.2⟩ h
  have hz9 : k < 1 := (List.getElem?_eq_some_iff.mp hx).1
  rw [show k = 0 by omega] at hx
  cases hx
  show H1[H.size]? = some (vp_cell _ _)
  rw [e1, vp_cell_l]
  exact congrArg some (arrV_congr (fun j _ => congrArg Value.long jZ_0.symm))
theorem q_newIN (hc : Cx p s m args c cc nL Ts own D K (hpM D A s.heap)) {n : Nat} {L b : Nat} (hlen : ws.length = L) (hlow : Lo D ws s.heap.size cells) (hb : b = s.heap.size + cells) (harr : Cond.arrayClass .int ∈ Ts) (hn : n ≤ 16777216) (hrm : cells + 1 ≤ R.cells ∧ slots + n ≤ R.slots) (hd : decode cc pc = .ok (.newarray .int, 2)) (k : ∀ ws' : va_W, ws'[L]? = some (b, iN K n (fun _ => 0)) → (∀ i, i ≠ L → ws'[i]? = ws[i]?) → V p l e R s m args below meth c nL (cells + 1) (slots + n) Q (hpM D A s.heap) ws' lv (pc + 2) (.ref b :: st)) : V p l e R s m args below meth c nL cells slots Q (hpM D A s.heap) ws lv (pc) (.int (iZ (n : Int)) :: st) := q_newI hc hlen hlow hb harr hn hrm hd k
theorem q_newJN (hc : Cx p s m args c cc nL Ts own D K (hpM D A s.heap)) {n : Nat} {L b : Nat} (hlen : ws.length = L) (hlow : Lo D ws s.heap.size cells) (hb : b = s.heap.size + cells) (harr : Cond.arrayClass .long ∈ Ts) (hn : n ≤ 16777216) (hrm : cells + 1 ≤ R.cells ∧ slots + n ≤ R.slots) (hd : decode cc pc = .ok (.newarray .long, 2)) (k : ∀ ws' : va_W, ws'[L]? = some (b, jN K n (fun _ => 0)) → (∀ i, i ≠ L → ws'[i]? = ws[i]?) → V p l e R s m args below meth c nL (cells + 1) (slots + n) Q (hpM D A s.heap) ws' lv (pc + 2) (.ref b :: st)) : V p l e R s m args below meth c nL cells slots Q (hpM D A s.heap) ws lv (pc) (.int (iZ (n : Int)) :: st) := q_newJ hc hlen hlow hb harr hn hrm hd k
theorem q_newO (hc : Cx p s m args c cc nL Ts own D K (hpM D A s.heap)) {C : String} {T : u_T} {N ci index : Nat} {fs : List Value} {L b : Nat} (hlen : ws.length = L) (hlow : Lo D ws s.heap.size cells) (hb : b = s.heap.size + cells) (hin : ∀ w ∈ u_ws C T N, w ∈ Ts) (ty : Nat → FieldType) (hty : ∀ k, k < N → parseFieldDescriptor (T k).2.2.1 = some (ty k)) (hk1 : Cond.classLink own index C ∈ Ts) (hk2 : Cond.instantiable C N ∈ Ts) (hk3 : Cond.initialized C ∈ Ts) (hcl : vwCl[ci]? = some (C, T, N)) (hfs : ∀ j, j < N → defaultValue (ty j) = vp_V fs j) (hrm : cells + 1 ≤ R.cells ∧ slots + N ≤ R.slots) (hd : decode cc pc = .ok (.new index, 3)) (k : ∀ ws' : va_W, ws'[L]? = some (b, .inr (ci, fs)) → (∀ i, i ≠ L → ws'[i]? = ws[i]?) → V p l e R s m args below meth c nL (cells + 1) (slots + N) Q (hpM D A s.heap) ws' lv (pc + 3) (.ref b :: st)) : V p l e R s m args below meth c nL cells slots Q (hpM D A s.heap) ws lv (pc) (st) := fun H locs ls hH h => by
  intro T0 hT X
  have hz := hs_eq X hT hH.1 hH.2.2.1.1 hlow
  have hz' : b = H.size := hb.trans hz.symm
  subst hz'
  have hKn := hc.2.1.1 ci _ hcl
  refine W.newcK hc.1.1 hc.1.2.1 hc.1.2.2.2.1 (hc.1.2.2.2.2 _ hk1) (hc.1.2.2.2.2 _ hk2) (hc.1.2.2.2.2 _ hk3) (g := F0 m pc ls st) rfl hd hrm.1 hrm.2 hKn.2.1 rfl (fun H1 kC hkC e1 z1 o1 => ?_) T0 hT X
  refine k (ws ++ [(H.size, .inr (ci, fs))]) (ap_at hlen _) (ap_ne hlen _) H1 locs ls ⟨(hH.1.kept (fun k x hx => o1 x.1 ((hH.1 k x hx).lt))).app (fun k x hx => ?_), hH.2.1.push hH.1 rfl (hH.2.2.2 _ hH.2.2.1.1), ⟨Nat.le_trans hH.2.2.1.1 (by omega), fun x h1 h2 => (o1 x (Nat.lt_of_lt_of_le h1 hH.2.2.1.1)).trans (hH.2.2.1.2.1 x h1 h2), hH.2.2.1.2.2⟩, hH.2.2.2⟩ h
  have hz9 : k < 1 := (List.getElem?_eq_some_iff.mp hx).1
  rw [show k = 0 by omega] at hx
  cases hx
  exact ⟨_, hcl, (u_born ty hc.1.2.2.2.2 hin hKn hkC e1 hty).to hfs⟩
theorem q_newA (hc : Cx p s m args c cc nL Ts own D K (hpM D A s.heap)) (hAO : AOs s) {n index : Nat} {L b : Nat} (hlen : ws.length = L) (hlow : Lo D ws s.heap.size cells) (hb : b = s.heap.size + cells) (hk1 : Cond.classLink own index "GlobalRoutes$Net" ∈ Ts) (hn : n ≤ 16777216) (hrm : cells + 1 ≤ R.cells ∧ slots + n ≤ R.slots) (hd : decode cc pc = .ok (.anewarray index, 3)) (k : ∀ ws' : va_W, ws'[L]? = some (b, nA K n (fun _ => none)) → (∀ i, i ≠ L → ws'[i]? = ws[i]?) → V p l e R s m args below meth c nL (cells + 1) (slots + n) Q (hpM D A s.heap) ws' lv (pc + 3) (.ref b :: st)) : V p l e R s m args below meth c nL cells slots Q (hpM D A s.heap) ws lv (pc) (.int (iZ (n : Int)) :: st) := fun H locs ls hH h => by
  intro T hT X
  have hz := hs_eq X hT hH.1 hH.2.2.1.1 hlow
  have hz' : b = H.size := hb.trans hz.symm
  subst hz'
  have hN : (iZ (n : Int)).toNatClampNeg = n := iZ_cl (by omega)
  refine W.anew hc.1.1 hc.1.2.1 hc.1.2.2.2.1 (hc.1.2.2.2.2 _ hk1) (va_AO.use hAO.1) (g := F0 m pc ls (.int (iZ (n : Int)) :: st)) rfl hd rfl (iZ_nn (by omega)) (by rw [hN]; omega) hrm.1 (by rw [hN]; exact hrm.2) (fun cA kA comp f1 f2 f3 f4 => ?_) T hT X
  rw [hN]
  obtain ⟨kA9, comp9, g1, g2, g3, g4⟩ := (hc.2.1.2 3 _ rfl).2
  have hcA : cA = K 3 := Option.some.inj (f1.symm.trans g4)
  subst hcA
  generalize hH1 : H.push ({ cls := K 3, slots := Array.replicate n .null, vm := .none } : Cell) = H1
  have z1 : H1.size = H.size + 1 := by rw [← hH1, Array.size_push]
  have e1 : H1[H.size]? = some (arrV (K 3) n (fun _ => .null)) := by rw [← hH1, Array.getElem?_push_size, ← arrV_new]
  have o1 : ∀ q : Nat, q < H.size → H1[q]? = H[q]? := fun q hq => by rw [← hH1, Array.getElem?_push, if_neg (Nat.ne_of_lt hq)]
  refine k (ws ++ [(H.size, nA K n (fun _ => none))]) (ap_at hlen _) (ap_ne hlen _) H1 locs ls ⟨(hH.1.kept (fun k x hx => o1 x.1 ((hH.1 k x hx).lt))).app (fun k x hx => ?_), hH.2.1.push hH.1 rfl (hH.2.2.2 _ hH.2.2.1.1), ⟨Nat.le_trans hH.2.2.1.1 (by omega), fun x h1 h2 => (o1 x (Nat.lt_of_lt_of_le h1 hH.2.2.1.1)).trans (hH.2.2.1.2.1 x h1 h2), hH.2.2.1.2.2⟩, hH.2.2.2⟩ h
  have hz9 : k < 1 := (List.getElem?_eq_some_iff.mp hx).1
  rw [show k = 0 by omega] at hx
  cases hx
  show H1[H.size]? = some (vp_cell _ _)
  rw [e1, vp_cell_q]
  rfl
theorem q_objInit (hc : Cx p s m args c cc nL Ts own D K Hp) {idx a : Nat} (h1 : Cond.methodLink own idx Lib.objectInit ∈ Ts) (h2 : Cond.instanceMethod Lib.objectInit ∈ Ts) (h3 : Cond.code Lib.objectInit ⟨#[0xb1]⟩ 1 none ∈ Ts) (hf : 1 ≤ R.frames) (hlo : (st.map fun v => v.category).sum + 12 ≤ R.locals) (hd : decode cc pc = .ok (.invokespecial idx, 3)) (k : V p l e R s m args below meth c nL cells slots Q Hp ws lv (pc + 3) (st)) : V p l e R s m args below meth c nL cells slots Q Hp ws lv (pc) (.ref a :: st) := fun H locs ls hH h => W.objInit hc.1.1 hc.1.2.1 hc.1.2.2.2.1 (hc.1.2.2.2.2 _ h1) (hc.1.2.2.2.2 _ h2) (hc.1.2.2.2.2 _ h3) (g := F0 m pc ls (.ref a :: st)) rfl (h.1.trans hc.1.2.2.1.symm) rfl hd hf (by
    show 2 * 0 + _ + 12 ≤ _
    omega) (k H locs ls hH h)
theorem q_putF (hc : Cx p s m args c cc nL Ts own D K (hpM D A s.heap)) {ref C : String} {T : u_T} {N ci index : Nat} {a : Nat} {fs fs' : List Value} {v : Value} {ty : FieldType} (q0 k0 : Nat) (hin : ∀ w ∈ u_ws C T N, w ∈ Ts) (ty0 : Nat → FieldType) (hty : ∀ k, k < N → parseFieldDescriptor (T k).2.2.1 = some (ty0 k)) (hnm : ∀ a, a < N → ∀ b, b < N → a ≠ b → (T a).2.1 ≠ (T b).2.1) (he : ws[q0]? = some (a, .inr (ci, fs))) (hcl : vwCl[ci]? = some (C, T, N)) (hk : k0 < N) (hlink : (Cond.fieldLink own index ref (T k0).2.1 (T k0).2.2.1).before args s = true) (href : (T k0).1 = ref) (hfin : (T k0).2.2.2 = true) (hin2 : meth.name = "<init>") (hdecl : (T k0).1 = own) (hdt : parseFieldDescriptor (T k0).2.2.1 = some ty) (hnr : narrow ty v = v) (hfit : fits ty v = true) (hl : k0 < fs.length) (hfs : fs.set k0 v = fs') (hd : decode cc pc = .ok (.putfield index, 3)) (k : ∀ ws' : va_W, ws'[q0]? = some (a, .inr (ci, fs')) → (∀ i, i ≠ q0 → ws'[i]? = ws[i]?) → V p l e R s m args below meth c nL cells slots Q (hpM D A s.heap) ws' lv (pc + 3) (st)) : V p l e R s m args below meth c nL cells slots Q (hpM D A s.heap) ws lv (pc) (v :: .ref a :: st) := fun H locs ls hH h => by
  subst hfs
  exact va_putF hc.1.1 hc.1.2.1 hc.1.2.2.2.2 hin ty0 hty hnm hc.1.2.2.2.1 hc.2.1 hH.1 hH.2.1 hH.2.2.1 q0 he hcl k0 hk hlink (fun _ h9 => by rw [← href]; exact h9) hfin hin2 hdecl hdt hnr hfit hl hd (fun H1 locs1 hP hD hS => k _ (st_eq he) (st_ne _) H1 locs1 ls ⟨hP, hD, hS, hH.2.2.2⟩ h)
theorem q_nast (hc : Cx p s m args c cc nL Ts own D K (hpM D A s.heap)) {n j v : Nat} {vs : List Value} {f : Nat → Option Nat} {z : Int} {a : Nat} (q0 qk : Nat) (ha : ws[q0]? = some (a, nA K n f)) (hv : ws[qk]? = some (v, .inr (3, vs))) (hz : z = (j : Int)) (hj : j < n) (hn : n < 2147483648) (hd : decode cc pc = .ok (.aastore, 1)) (k : ∀ ws' : va_W, ws'[q0]? = some (a, nA K n (va_up f j (some v))) → (∀ i, i ≠ q0 → ws'[i]? = ws[i]?) → V p l e R s m args below meth c nL cells slots Q (hpM D A s.heap) ws' lv (pc + 1) (st)) : V p l e R s m args below meth c nL cells slots Q (hpM D A s.heap) ws lv (pc) (.ref v :: .int (iZ z) :: .ref a :: st) := fun H locs ls hH h => by
  subst hz
  refine va_astq (r := (RX3, TX3, 4)) hc.1.1 hc.1.2.1 hc.2.1 hH.1 hH.2.1 hH.2.2.1 q0 3 qk 3 ha rfl hv rfl (iZ_in hj hn) hd (fun H1 locs1 hP hD hS => ?_)
  rw [iZ_cl (Nat.lt_trans hj hn)] at hP hD
  exact k _ (st_eq ha) (st_ne _) H1 locs1 ls ⟨hP, hD, hS, hH.2.2.2⟩ h
theorem q_norm_nA (hc : Cx p s m args c cc nL Ts own D K (hpM D A s.heap)) {n : Nat} {f g : Nat → Option Nat} {a : Nat} (q0 : Nat) (ha : ws[q0]? = some (a, nA K n f)) (hfg : ∀ k, k < n → f k = g k) (k : ∀ ws' : va_W, ws'[q0]? = some (a, nA K n g) → (∀ i, i ≠ q0 → ws'[i]? = ws[i]?) → V p l e R s m args below meth c nL cells slots Q (hpM D A s.heap) ws' lv (pc) (st)) : V p l e R s m args below meth c nL cells slots Q (hpM D A s.heap) ws lv (pc) (st) := fun H locs ls hH h => by
  refine k _ (st_eq ha) (st_ne _) H locs ls ⟨hH.1.set hH.2.1 ha ?_ (fun _ _ => rfl), hH.2.1.set ha, hH.2.2.1, hH.2.2.2⟩ h
  have h9 : H[a]? = some (vp_cell _ _) := hH.1 q0 _ ha
  show H[a]? = some (vp_cell _ _)
  rw [h9]
  show some (vp_cell _ (n, _)) = some (vp_cell _ (n, _))
  rw [vp_cell_q, vp_cell_q]
  refine congrArg some (arrV_congr ?_)
  intro j hj
  rw [hfg j hj]
theorem q_vretN {ws0 : va_W} {mc ms : Nat} (hc : Cx p s m args c cc nL Ts own D K (hpM D (va_A ws0 s.heap.size) s.heap)) {post : va_W → Prop} (hv : post ws) (hr : meth.sig.returnType = none) (hlk : meth.locks = false) (hcm : cells ≤ mc ∧ slots ≤ ms) (hd : decode cc pc = .ok (.return_, 1)) : V p l e R s m args below meth c nL cells slots (MQ below (va_Qv post (PBm D ws0 s.heap.size) (va_A ws0 s.heap.size)) args s mc ms (va_A ws0 s.heap.size)) (hpM D (va_A ws0 s.heap.size) s.heap) ws lv (pc) ([]) := fun H locs ls hH h => W.widen hcm.1 hcm.2 (W.vret hc.1.1 hc.1.2.1 hr (fun t ht _ => ⟨⟨ws, rfl, hv, by rw [ht]; exact hH.1, hH.2.1⟩, hH.2.2.1.F ht⟩) hH.2.2.1.2.2 hd hlk)
theorem q_callN (hc : Cx p s m args c cc nL Ts own D K (hpM D A s.heap)) (hAO : AOs s) {y : MethodName} {bytes : ByteArray} {maxL n index mc1 ms1 sz b : Nat} {w : List Cond} {rm : Room} {As rest : List Value} {post : va_W → Prop} (hM : MNv l y w rm D K ws (.ref b :: As) sz mc1 ms1 post) (cw : CallB R s args own index y bytes maxL none w rm mc1 ms1 n ∧ y.name = "<init>" ∧ (Cond.instanceMethod y).before args s = true) (hlow : Lo D ws s.heap.size cells) (hsz9 : sz = s.heap.size + cells) (hn : As.length = n) (hst : st = As.reverse ++ .ref b :: rest) (hr : (rest.map fun v => v.category).sum ≤ 8) (hd : decode cc pc = .ok (.invokespecial index, 3)) (hrm : cells + mc1 ≤ R.cells ∧ slots + ms1 ≤ R.slots) (k : ∀ u : va_W, post u → V p l e R s m args below meth c nL (cells + mc1) (slots + ms1) Q (hpM D A s.heap) u lv (pc + 3) (rest)) : V p l e R s m args below meth c nL cells slots Q (hpM D A s.heap) ws lv (pc) (st) := fun H locs ls hH h => by
  intro T hT X
  have hz : H.size = sz := (hs_eq X hT hH.1 hH.2.2.1.1 hlow).trans hsz9.symm
  subst hz
  have hfree := va_A.sub hH.2.1 hH.2.2.1 hH.2.2.2
  exact va_callv (va_runI hc.1 hM cw ⟨PCn.blind, fun U hU hW => ⟨rfl, by rw [hU], by rw [hU]; exact hH.1, va_K.moved hW.alike hc.2.1, hH.2.1.weaken (fun _ _ _ _ => trivial), hAO.moved hW.alike⟩⟩ rfl hn h.1 hst (lv_room hr) hd hrm) hH.2.2.1 (fun q _ h9 => hfree q h9) hfree (fun u t H1 locs1 ht _ hp hB _ _ hS => k u hp H1 locs1 ls ⟨by rw [← ht]; exact hB.1, hB.2.weaken (fun _ _ _ h9 => hfree _ h9), hS, hH.2.2.2⟩ h) T hT X
end NR
theorem q_entNv {l : Launch} {y : MethodName} {w w' : List Cond} {rm : Room} {cc : ByteArray} {maxL sz mc ms : Nat} {ret : Option FieldType} {D : va_G} {K : Nat → ClassId} {ws : va_W} {as : List Value} {post : va_W → Prop} (own : String) (lv : List (Nat × Value)) (hy : plainName y.cls = true) (hw : w = Cond.code y cc maxL ret :: w') (ho : y.cls = own) (hlen : (lg_sl as).length ≤ maxL) (hlv : lv_args 0 as = lv) (hyn : y.name = "<init>") (body : ∀ (p : Program) (e : Env) (s : State) (m : MethodId) (args : Array Value) (below : List Frame) (meth : Method) (c : Code), Cx p s m args c cc maxL w own D K (hpM D (va_A ws s.heap.size) s.heap) → AOs s → meth.name = "<init>" → s.heap.size = sz → meth.sig.returnType = ret → meth.locks = false → V p l e rm s m args below meth c maxL 0 0 (MQ below (va_Qv post (PBm D ws s.heap.size) (va_A ws s.heap.size)) args s mc ms (va_A ws s.heap.size)) (hpM D (va_A ws s.heap.size) s.heap) ws lv (0) ([])) : MNv l y w rm D K ws as sz mc ms post := by
  refine Met.ofW (cc := cc) (maxL := maxL) (ret := ret) hy hw ?_
  intro p e s m args below meth c s₁ B hml hv
  obtain ⟨rfl, hsz, hP, hK, hD, hAO⟩ := hv
  subst hsz
  have hown : s.vm.findClass own = some m.cls := by rw [← ho]; exact findClass_of_methodNamed B.named
  have hnm : meth.name = "<init>" := (name_of_methodNamed B.named B.method).1.trans hyn
  have hl := lv_entry as (n := maxL) hlen
  rw [hlv] at hl
  rw [lg_entry_eq]
  exact body p e s m _ below meth c ⟨⟨B.exec, B.bytes, hml, hown, atoms_spec (ws := w) B.pre⟩, hK, fun _ _ _ h => h.1⟩ hAO hnm rfl B.returns B.notSynchronized s.heap [] _ ⟨hP, hD.self, va_S.rf, fun q h => Or.inr h⟩ hl
theorem D_app {A : Nat → Prop} {D : va_G} {ws xs : va_W} {H : Heap} (hP : va_P D vwCl ws H) (hD : va_D A ws) (hA : ∀ q, H.size ≤ q → A q) (hx : ∀ k q, xs[k]? = some q → q.1 = H.size + k) : va_D A (ws ++ xs) := by
  refine ⟨fun i j x y hi hj hxy => ?_, fun k x hk => ?_⟩
  · by_cases h1 : i < ws.length <;> by_cases h2 : j < ws.length
    · rw [List.getElem?_append_left h1] at hi
      rw [List.getElem?_append_left h2] at hj
      exact hD.1 i j x y hi hj hxy
    · rw [List.getElem?_append_left h1] at hi
      rw [List.getElem?_append_right (by omega)] at hj
      have := vx_lt hP hi
      have := hx _ _ hj
      omega
    · rw [List.getElem?_append_right (by omega)] at hi
      rw [List.getElem?_append_left h2] at hj
      have := vx_lt hP hj
      have := hx _ _ hi
      omega
    · rw [List.getElem?_append_right (by omega)] at hi hj
      have := hx _ _ hi
      have := hx _ _ hj
      omega
  · by_cases h1 : k < ws.length
    · rw [List.getElem?_append_left h1] at hk
      exact hD.2 k x hk
    · rw [List.getElem?_append_right (by omega)] at hk
      have := hx _ _ hk
      exact hA _ (by omega)
section MR
variable {p : Program} {l : Launch} {e : Env} {R : Room} {s : State} {m : MethodId} {args : Array Value} {below : List Frame} {meth : Method} {c : Code} {nL cells slots : Nat} {Q : State → Prop} {Hp : va_W → Heap → List Loc → Prop} {ws : va_W} {lv : List (Nat × Value)} {pc : Nat} {st : List Value}
variable {cc : ByteArray} {Ts : List Cond} {own : String} {D : va_G} {K : Nat → ClassId} {A : Nat → Prop}
theorem q_mna (hc : Cx p s m args c cc nL Ts own D K (hpM D A s.heap)) (hAO : AOs s) {n index : Nat} {L b : Nat} (hlen : ws.length = L) (hlow : Lo D ws s.heap.size cells) (hb : b = s.heap.size + cells) (adr : Nat → Nat) (hadr : ∀ j, j < 16 → adr j = b + 1 + j) (hk1 : Cond.classLink own index "[[I" ∈ Ts) (hk2 : Cond.arrayClass .int ∈ Ts) (hn : n ≤ 1000) (hrm : cells + 17 ≤ R.cells ∧ slots + (16 + 16 * n) ≤ R.slots) (hd : decode cc pc = .ok (.multianewarray index 2, 4)) (k : ∀ ws' : va_W, ws'[L]? = some (b, rA K 16 (fun i => some (adr i))) → (∀ j, j < 16 → ws'[L + 1 + j]? = some (adr j, iN K n (fun _ => 0))) → (∀ i, ¬ (L ≤ i ∧ i < L + 17) → ws'[i]? = ws[i]?) → V p l e R s m args below meth c nL (cells + 1 + 16) (slots + 16 + 16 * n) Q (hpM D A s.heap) ws' lv (pc + 4) (.ref b :: st)) : V p l e R s m args below meth c nL cells slots Q (hpM D A s.heap) ws lv (pc) (.int (iZ (n : Int)) :: .int (iZ ((16 : Nat) : Int)) :: st) := fun H locs ls hH h => by
  intro T hT X
  have hz := hs_eq X hT hH.1 hH.2.2.1.1 hlow
  have hz' : b = H.size := hb.trans hz.symm
  subst hz'
  have hN : (iZ (((16 : Nat) : Nat) : Int)).toNatClampNeg = 16 := iZ_cl (by omega)
  have hM : (iZ (n : Int)).toNatClampNeg = n := iZ_cl (by omega)
  have hlink : (Cond.classLink own index ("[" ++ (FieldType.array .int).toString)).before args s = true := hc.1.2.2.2.2 _ hk1
  obtain ⟨vm₁, cA, cy, -, fA, fC, hO, -, X', step⟩ := X.multianewarray2F hc.1.1 hc.1.2.2.2.1 hlink hAO.2 (hc.1.2.2.2.2 _ hk2) (g := F0 m pc ls (.int (iZ (n : Int)) :: .int (iZ ((16 : Nat) : Int)) :: st)) rfl (by rw [hc.1.2.1]; exact hd) rfl (iZ_nn (by omega)) (iZ_nn (by omega)) (by rw [hN]; omega) (by rw [hM]; show n * 4 ≤ _; omega) (by rw [hM]; omega) rfl rfl (by rw [hN]; exact hrm.1) (by rw [hN, hM]; exact hrm.2)
  rw [hN, hM] at X' step
  generalize hF : Jvm.Free.Multi.fill (T.setVm vm₁) cA cy 16 n (defaultValue .int) 16 = F at X' step
  have hTh : (T.setVm vm₁).heap = H := hT
  obtain ⟨f1, f2, -, -⟩ := Jvm.Free.Multi.fill_facts (T.setVm vm₁) cA cy 16 n (defaultValue .int) 16
  rw [hF, hTh] at f1 f2
  have hold : ∀ x : Nat, x < H.size → F.heap[x]? = H[x]? := fun x hx => by
    have := Jvm.Free.Multi.fill_old (T.setVm vm₁) cA cy 16 n (defaultValue .int) (a := x) (by rw [hTh]; exact hx) 16
    rw [hF, hTh] at this
    exact this
  have hcA : cA = K 4 := Option.some.inj (fA.symm.trans (hc.2.1.2 4 _ rfl).2)
  have hcy : cy = K 0 := Option.some.inj (fC.symm.trans (hc.2.1.2 0 _ rfl).2)
  have hrow : ∀ j : Nat, j < 16 → F.heap[H.size + 1 + j]? = some (vp_cell (K 0) (n, .inl (fun _ => iZ ((0 : Nat) : Int)))) := fun j hj => by
    have := Jvm.Free.Multi.fill_inner (T.setVm vm₁) cA cy 16 n (defaultValue .int) 16 j hj
    rw [hF, hTh] at this
    rw [this, hcy, vp_cell_i]
    show some ({ cls := K 0, slots := Array.replicate n (defaultValue .int), vm := .none } : Cell) = _
    rw [arrV_new]
    exact congrArg some (arrV_congr (fun j _ => congrArg Value.int iZ_0.symm))
  have hout : F.heap[H.size]? = some (vp_cell (K 4) (16, .inr (.inr (.inr (.inr (fun i => some (adr i))))))) := by
    rw [f2, vr_outer, hcA, vp_cell_q]
    refine congrArg some (arrV_congr (fun j hj => ?_))
    rw [if_pos hj, hadr j hj]
  have hxs : ∀ (k : Nat) (q : Nat × va_E), (((H.size, rA K 16 (fun i => some (adr i))) :: (List.range 16).map (fun j => (adr j, iN K n (fun _ => 0)))) : va_W)[k]? = some q → q.1 = H.size + k ∧ va_at D vwCl q F.heap := by
    intro k q hq
    rcases k with _ | k
    · cases hq
      exact ⟨rfl, hout⟩
    · rw [List.getElem?_cons_succ, List.getElem?_map] at hq
      by_cases h9 : k < 16
      · rw [List.getElem?_range h9] at hq
        cases hq
        refine ⟨by show adr k = _; rw [hadr k h9]; omega, ?_⟩
        show F.heap[adr k]? = some (vp_cell _ _)
        rw [hadr k h9]
        exact hrow k h9
      · rw [List.getElem?_eq_none (by rw [List.length_range]; omega)] at hq
        cases hq
  obtain ⟨t, a1, b1⟩ := k (ws ++ ((H.size, rA K 16 (fun i => some (adr i))) :: (List.range 16).map (fun j => (adr j, iN K n (fun _ => 0))))) (by
      rw [List.getElem?_append_right (by omega), hlen, Nat.sub_self]; rfl) (fun j hj => by
      rw [List.getElem?_append_right (by omega), hlen, show L + 1 + j - L = j + 1 by omega, List.getElem?_cons_succ, List.getElem?_map, List.getElem?_range hj]; rfl) (fun i hi => by
      by_cases h9 : i < L
      · exact List.getElem?_append_left (by omega)
      · rw [List.getElem?_eq_none (by simp; omega), List.getElem?_eq_none (by omega)]) F.heap locs ls ⟨(hH.1.kept (fun k x hx => hold x.1 ((hH.1 k x hx).lt))).app (fun k q hq => (hxs k q hq).2), D_app hH.1 hH.2.1 (fun q hq => hH.2.2.2 q (Nat.le_trans hH.2.2.1.1 hq)) (fun k q hq => (hxs k q hq).1), ⟨by rw [f1]; have := hH.2.2.1.1; omega, fun x h1 h2 => (hold x (Nat.lt_of_lt_of_le h1 hH.2.2.1.1)).trans (hH.2.2.1.2.1 x h1 h2), hH.2.2.1.2.2⟩, hH.2.2.2⟩ h F rfl X'
  refine ⟨t, step t ?_, b1⟩
  have e9 : T.heap.size = H.size := by rw [hT]
  rw [e9]
  exact a1
end MR
