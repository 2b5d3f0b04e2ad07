/-! ===== rows of rows: multianewarray of two dimensions ===== -/
section MNA
variable {p : Program} {l : Launch} {e : Env} {R : Room} {s : State} {m : MethodId} {args : Array Value} {below : List Frame} {meth : Method} {c : Code} {locs : List Loc} {cells slots : Nat}
/-- the outer array when i rows stand -/
def mnA (cA : ClassId) (N a0 i : Nat) : Cell := arrV cA N (fun j => if j < i then .ref (a0 + 1 + j) else .null)
/-- the state when i rows stand: the outer array at the old heap's end, the rows behind it -/
def mnT (T0 : State) (cA cB : ClassId) (N K : Nat) (dv : Value) : Nat → State
  | 0 => T0.pushCell (mnA cA N T0.heap.size 0)
  | i + 1 => ((mnT T0 cA cB N K dv i).pushCell (arrV cB K (fun _ => dv))).setCell T0.heap.size ((mnA cA N T0.heap.size i).setSlot i (.ref (T0.heap.size + 1 + i)))
theorem mnA_0 {cA : ClassId} {N a0 : Nat} : mnA cA N a0 0 = arrV cA N (fun _ => .null) := by
  unfold mnA
  congr 1
theorem mnA_s {cA : ClassId} {N a0 i : Nat} : (mnA cA N a0 i).setSlot i (.ref (a0 + 1 + i)) = mnA cA N a0 (i + 1) := by
  unfold mnA
  rw [arrV_store]
  congr 1
  funext j
  unfold updV
  by_cases y : j = i
  · rw [if_pos y, if_pos (by omega), y]
  · rw [if_neg y]
    show (if j < i then Value.ref (a0 + 1 + j) else Value.null) = if j < i + 1 then Value.ref (a0 + 1 + j) else Value.null
    by_cases w : j < i
    · rw [if_pos w, if_pos (by omega)]
    · rw [if_neg w, if_neg (by omega)]
theorem mnT_ok {T0 : State} {cA cB : ClassId} {N K : Nat} {dv : Value} (X0 : Stand p l e R s m args below meth c T0 locs cells slots) : ∀ i, (mnT T0 cA cB N K dv i).vm = T0.vm ∧ Stand p l e R s m args below meth c (mnT T0 cA cB N K dv i) (locs ++ (List.range i).map (fun j => ⟨T0.heap.size, j⟩)) (cells + 1 + i) (slots + N + i * K) ∧ (mnT T0 cA cB N K dv i).heap.size = T0.heap.size + 1 + i ∧ (mnT T0 cA cB N K dv i).heap[T0.heap.size]? = some (mnA cA N T0.heap.size i) ∧ (∀ j, j < i → (mnT T0 cA cB N K dv i).heap[T0.heap.size + 1 + j]? = some (arrV cB K (fun _ => dv))) ∧ ∀ q, q < T0.heap.size → (mnT T0 cA cB N K dv i).heap[q]? = T0.heap[q]?
  | 0 => by
    refine ⟨rfl, ?_, ?_, State.heap_pushCell_size _ _, fun j hj => absurd hj (Nat.not_lt_zero j), fun q hq => State.heap_pushCell_of_lt _ _ hq⟩
    · have y := X0.pushed (mnA cA N T0.heap.size 0)
      rw [mnA_0, arrV_size, ← mnA_0 (a0 := T0.heap.size)] at y
      rw [Nat.zero_mul]
      simpa [mnT] using y
    · simp [mnT]
  | i + 1 => by
    obtain ⟨hvm, X, hz, h1, h2, h3⟩ := mnT_ok (cA := cA) (cB := cB) (N := N) (K := K) (dv := dv) X0 i
    have hz0 : T0.heap.size < (mnT T0 cA cB N K dv i).heap.size := by omega
    have hcell : ((mnT T0 cA cB N K dv i).pushCell (arrV cB K (fun _ => dv))).heap[T0.heap.size]? = some (mnA cA N T0.heap.size i) := by
      rw [State.heap_pushCell_of_lt (h := hz0)]
      exact h1
    have hnx : (mnT T0 cA cB N K dv (i + 1)) = ((mnT T0 cA cB N K dv i).pushCell (arrV cB K (fun _ => dv))).setCell T0.heap.size ((mnA cA N T0.heap.size i).setSlot i (.ref (T0.heap.size + 1 + i))) := rfl
    rw [hnx]
    generalize mnT T0 cA cB N K dv i = T at hvm X hz h1 h2 h3 hz0 hcell
    have hz1 : (T.pushCell (arrV cB K (fun _ => dv))).heap.size = T.heap.size + 1 := by simp
    refine ⟨hvm, ?_, ?_, ?_, fun j hj => ?_, fun y hy => ?_⟩
    · have y := (X.pushed (arrV cB K (fun _ => dv))).stored hcell i (.ref (T0.heap.size + 1 + i))
      rw [arrV_size, List.append_assoc] at y
      rw [List.range_succ, List.map_append, Nat.succ_mul, show slots + N + (i * K + K) = slots + N + i * K + K by omega]
      exact y
    · rw [size_setCell, hz1]
      omega
    · rw [heapAt_setCell_self _ (show T0.heap.size < (T.pushCell (arrV cB K (fun _ => dv))).heap.size by omega), mnA_s]
    · rw [heapAt_setCell_ne _ (show T0.heap.size ≠ T0.heap.size + 1 + j by omega)]
      by_cases y : j = i
      · rw [y, show T0.heap.size + 1 + i = T.heap.size by omega]
        exact State.heap_pushCell_size _ _
      · rw [State.heap_pushCell_of_lt (h := show T0.heap.size + 1 + j < T.heap.size by omega)]
        exact h2 j (by omega)
    · rw [heapAt_setCell_ne _ (show T0.heap.size ≠ y by omega), State.heap_pushCell_of_lt (h := show y < T.heap.size by omega)]
      exact h3 y hy
theorem mn_fit {t : FieldType} (h : t.isReference = true) {v : Value} (hv : v = .null ∨ ∃ a, v = .ref a) : fits t v = true := by
  rcases hv with rfl | ⟨a, rfl⟩
  · cases t <;> first | rfl | exact absurd h (by decide)
  · cases t <;> first | rfl | exact absurd h (by decide)
/-- all rows -/
theorem mn_make {E : CtlPost} {d : Bool} {acts : List Action} {T0 : State} {g : JFrame} {cA cB cc : ClassId} {kA kB : Class} {t0 ty : FieldType} {N K : Nat} {n k : Int32} (hN : n.toNatClampNeg = N) (hnz : (n == 0) = false) (hn0 : ¬ n < 0) (hK : k.toNatClampNeg = K) (hk0 : ¬ k < 0) (hA : T0.vm.classes[cA]? = some kA) (hAk : kA.kind = .array cB t0) (hAr : t0.isReference = true) (hB : T0.vm.classes[cB]? = some kB) (hBk : kB.kind = .array cc ty) (hdf : fits ty (defaultValue ty) = true) (hl0 : ¬ N > e.platform.arrayLengthLimit) (hh0 : ¬ N * componentBytes t0 > e.platform.maxHeapBytes) (hl : ¬ K > e.platform.arrayLengthLimit) (hh : ¬ K * componentBytes ty > e.platform.maxHeapBytes) (hc : cells + (1 + N) ≤ R.cells) (hs : slots + (N + N * K) ≤ R.slots) (X0 : Stand p l e R s m args below meth c T0 locs cells slots)
    {Q : Addr → Pre} (hq : ∀ d' acts', Q T0.heap.size d' acts' ((mnT T0 cA cB N K (defaultValue ty) N).setTop g)) : wp (multianewarray.make cA [n, k]) Q E e d acts (T0.setTop g) := by
  have hA' : (T0.setTop g).vm.classes[cA]? = some kA := hA
  obtain ⟨r1, r2⟩ := X0.roomAbove (a := 1) (b := N) (by omega) (by omega)
  rw [multianewarray.make]
  simp only [wp_bind', W.ite, hn0, if_false, wp_pure', W.theClass, hA', hAk, Option.some.injEq, exists_eq_left', hN]
  refine W.newArray_of hA' hAk hl0 hh0 (by show T0.heap.size < _; omega) (by show T0.slotsUsed + N ≤ _; exact r2) (mn_fit hAr (Or.inl rfl)) (fun acts' => ?_)
  rw [if_neg (by rw [hnz]; decide), wp_bind', Std.Legacy.Range.forIn_eq_forIn_range', show ([:N] : Std.Legacy.Range).size = N by simp [Std.Legacy.Range.size]]
  refine wp_forIn_inv (fun rest u => ∃ i, i ≤ N ∧ rest = List.range' i (N - i) ∧ u = (mnT T0 cA cB N K (defaultValue ty) i).setTop g) _ _ ⟨0, Nat.zero_le _, rfl, ?_⟩ ?_ ?_
  · unfold mnT
    rw [mnA_0, ← arrV_new]
    rfl
  · rintro x rest u d' acts1 Q' ⟨i, hi, hr, rfl⟩ hnext
    have hlt : i < N := by
      by_cases q : i < N
      · exact q
      · rw [show N - i = 0 by omega] at hr
        cases hr
    rw [show N - i = N - (i + 1) + 1 by omega, List.range'_succ] at hr
    obtain ⟨rfl, hr⟩ := List.cons.inj hr
    obtain ⟨hvm, X, hz, h1, -, -⟩ := mnT_ok (cA := cA) (cB := cB) (N := N) (K := K) (dv := defaultValue ty) X0 x
    have hm : x * K + K ≤ N * K := by
      have := Nat.mul_le_mul_right K (Nat.succ_le_of_lt hlt)
      rw [Nat.succ_mul] at this
      exact this
    have hnx : (mnT T0 cA cB N K (defaultValue ty) (x + 1)) = ((mnT T0 cA cB N K (defaultValue ty) x).pushCell (arrV cB K (fun _ => defaultValue ty))).setCell T0.heap.size ((mnA cA N T0.heap.size x).setSlot x (.ref (T0.heap.size + 1 + x))) := rfl
    generalize mnT T0 cA cB N K (defaultValue ty) x = T at hvm X hz h1 hnx
    obtain ⟨q1, q2⟩ := X.roomAbove (a := 1) (b := K) (by omega) (by omega)
    have hB' : (T.setTop g).vm.classes[cB]? = some kB := by
      show T.vm.classes[cB]? = some kB
      rw [hvm]
      exact hB
    simp only [wp_bind']
    rw [multianewarray.make]
    simp only [wp_bind', W.ite, hk0, if_false, wp_pure', W.theClass, hB', hBk, Option.some.injEq, exists_eq_left', hK]
    refine W.newArray_of hB' hBk hl hh (by show T.heap.size < _; omega) (by show T.slotsUsed + K ≤ _; exact q2) hdf (fun acts2 => ?_)
    have hz0 : T0.heap.size < T.heap.size := by omega
    have hcell : (T.pushCell (arrV cB K (fun _ => defaultValue ty))).heap[T0.heap.size]? = some (mnA cA N T0.heap.size x) := by
      rw [State.heap_pushCell_of_lt (h := hz0)]
      exact h1
    have e1 : ((T.setTop g).pushCell { cls := cB, slots := Array.replicate K (defaultValue ty) }) = (T.pushCell (arrV cB K (fun _ => defaultValue ty))).setTop g := by
      rw [← arrV_new]
      rfl
    rw [e1]
    simp only [wp_bind', W.writeLoc, wp_pure']
    refine ⟨mnA cA N T0.heap.size x, hcell, (fun y => by cases y), (by unfold mnA; rw [arrV_size]; exact hlt), ?_, hnext _ _ _ ⟨x + 1, hlt, hr, ?_⟩⟩
    · have hA2 : T.vm.classes[cA]? = some kA := by
        rw [hvm]
        exact hA
      show State.fitsSlot _ cA .none x (.ref T.heap.size) = true
      simp [State.fitsSlot, State.slotType?, hA2, hAk, mn_fit hAr (Or.inr ⟨T.heap.size, rfl⟩)]
    · rw [hnx, ← hz]
      rfl
  · rintro u d' acts1 ⟨i, hi, hr, rfl⟩
    have e : i = N := by
      by_cases q : i < N
      · rw [show N - i = N - (i + 1) + 1 by omega, List.range'_succ] at hr
        cases hr
      · omega
    subst e
    simp only [wp_pure']
    exact hq _ _
theorem mn_cold {E : CtlPost} {d : Bool} {acts : List Action} {T0 : State} {g : JFrame} {Q : Unit → Pre} {index c0 : Nat} {vm' : Vm} (hs : T0.topJava?.isSome) (hg : (Jvm.resolveClass g.method.cls index).Gives e.toSetting T0.vm (.ok c0) vm') (hr : vm'.classReady g.method.cls index c0) (hsz : vm'.classes.size ≤ T0.vm.classes.size := by no_record) : wp (multianewarray.sem index 2) Q E e d acts (T0.setTop g) ↔ wp (multianewarray.sem index 2) Q E e d acts ((T0.setVm vm').setTop g) := by
  simp only [multianewarray.sem, wp_bind']
  exact W.resolveClassAt_transfer (s := T0.setTop g) (State.method?_setTop g hs) hg hr
/-- multianewarray of two dimensions -/
theorem mn_step {T0 : State} {own : String} {index : Nat} {ty : FieldType} (X0 : Stand p l e R s m args below meth c T0 locs cells slots) (hexec : p.tables.exec = Jvm.exec) (hown : s.vm.findClass own = some m.cls) (hcl : (Cond.classLink own index ("[" ++ (FieldType.array ty).toString)).before args s = true) (hov : (Cond.arrayOver (.array ty)).before args s = true) (har : (Cond.arrayClass ty).before args s = true) {g : JFrame} (hg : g.method = m) {N K : Nat} {n k : Int32} (hN : n.toNatClampNeg = N) (hnz : (n == 0) = false) (hn0 : ¬ n < 0) (hK : k.toNatClampNeg = K) (hk0 : ¬ k < 0) (hb1 : N ≤ 100000) (hb2 : K ≤ 100000) (hcb : componentBytes ty ≤ 8) (hdf : fits ty (defaultValue ty) = true) (hc : cells + (1 + N) ≤ R.cells) (hs : slots + (N + N * K) ≤ R.slots) {rest : List Value} (hst : g.stack = .int k :: .int n :: rest) (hd : decode c.code g.pc = .ok (.multianewarray index 2, 4)) {G : State → Prop}
    (kk : ∀ (T : State) (cA cB : ClassId), s.vm.findClass ("[" ++ (FieldType.array ty).toString) = some cA → s.vm.findClass ("[" ++ ty.toString) = some cB → Stand p l e R s m args below meth c T (locs ++ (List.range N).map (fun j => ⟨T0.heap.size, j⟩)) (cells + 1 + N) (slots + N + N * K) → T.heap.size = T0.heap.size + 1 + N → T.heap[T0.heap.size]? = some (mnA cA N T0.heap.size N) → (∀ j, j < N → T.heap[T0.heap.size + 1 + j]? = some (arrV cB K (fun _ => defaultValue ty))) → (∀ q, q < T0.heap.size → T.heap[q]? = T0.heap[q]?) → ∃ t, Steps p.tables e below (T.setTop { g with pc := g.pc + 4, stack := .ref T0.heap.size :: rest }) t ∧ G t) : ∃ t, Steps p.tables e below (T0.setTop g) t ∧ G t := by
  subst hg
  have hpl : e.platform.magicAccessors = ({} : Platform).magicAccessors := by rw [X0.admits.platform]
  obtain ⟨cB, cA, kA, hcomp, -, hkA, hkAk, hnA⟩ := arrayOverA_spec hov
  obtain ⟨cB', kB, cc, hnB, hkB, hkBk⟩ := Cond.arrayClass_spec har
  have hAB : (FieldType.array ty).toString = "[" ++ ty.toString := rfl
  cases Option.some.inj (hcomp.symm.trans hnB)
  obtain ⟨cL, hfL, hlk⟩ := Cond.classLink_spec hown hcl e.platform hpl
  cases Option.some.inj (hnA.symm.trans hfL)
  obtain ⟨w1, w2, w3⟩ := State.classEntry (e := e) X0.warmed hlk
  generalize T0.vm.noted g.method.cls index (.cls cA) = vm₁ at w1 w2 w3
  have hal : s.vm.Alike vm₁ := w2.alike
  obtain ⟨kA₁, hkA₁, heA⟩ := hal.2.2 _ _ hkA
  obtain ⟨kB₁, hkB₁, heB⟩ := hal.2.2 _ _ hkB
  have X1 := X0.noted w2
  obtain ⟨-, X, hz, h1, h2, h3⟩ := mnT_ok (cA := cA) (cB := cB) (N := N) (K := K) (dv := defaultValue ty) X1 N
  obtain ⟨t, a1, b1⟩ := kk _ cA cB hnA hnB X hz h1 h2 h3
  refine ⟨t, ?_, b1⟩
  refine Steps.instr (c := c) (by simpa using X0.here) ?_
  rw [hd]
  show (p.tables.exec (Instr.multianewarray index 2)).wpRun _ _ e (T0.setTop g)
  rw [hexec]
  simp only [wpRun, exec]
  rw [mn_cold (e := e) X0.here.top w1 w3]
  simp only [multianewarray.sem, wp_bind', W.resolveClassAt_ready (s := (T0.setVm vm₁).setTop g) (State.method?_setTop g X0.here.top) w3]
  simp [jvm, popN, hst, X0.here.top]
  have hlim : ∀ z : Nat, z ≤ 100000 → ¬ z > e.platform.arrayLengthLimit := fun z hz => by rw [Launch.admits_arrayLengthLimit X0.admits]; omega
  have hhp : ∀ z b : Nat, z ≤ 100000 → b ≤ 8 → ¬ z * b > e.platform.maxHeapBytes := fun z b hz hb => by
    rw [Launch.admits_maxHeapBytes X0.admits]
    have := Nat.mul_le_mul hz hb
    omega
  refine mn_make (T0 := T0.setVm vm₁) (cA := cA) (cB := cB) (kA := kA₁) (kB := kB₁) (t0 := .array ty) (ty := ty) (cc := cc) hN hnz hn0 hK hk0 hkA₁ (by rw [heA]; exact hkAk) rfl hkB₁ (by rw [heB]; exact hkBk) hdf (hlim N hb1) (hhp N _ hb1 (by show (4 : Nat) ≤ 8; decide)) (hlim K hb2) (hhp K _ hb2 hcb) hc hs X1 (fun d' acts' => ?_)
  simp [jvm, X.here.top]
  exact a1
end MNA
