section JC
variable {M M2 : MD} {R : Room} {sh0 : SH} {Z : ZT} {pc nx : Nat} {L : List (Option PV)} {st : List PV} {sh sh' shT : SH} {h : PH}
/-- the room of a call that leads from the shapes sh to sh' -/
def CR (R : Room) (sh0 sh sh' : SH) : Prop := (sh0.length ≤ sh.length ∧ ssz sh0 ≤ ssz sh) ∧ (sh.length ≤ sh'.length ∧ ssz sh ≤ ssz sh') ∧ sh'.length - sh0.length ≤ R.cells ∧ ssz sh' - ssz sh0 ≤ R.slots
theorem CR.same {M : MD} {sh : SH} : CR (rmOf M (sh.length - sh.length) (ssz sh - ssz sh)) sh sh sh := ⟨⟨Nat.le_refl _, Nat.le_refl _⟩, ⟨Nat.le_refl _, Nat.le_refl _⟩, Nat.le_refl _, Nat.le_refl _⟩
/-- what a callee's words need -/
def MOK (M : MD) (n : Nat) : Prop := Cond.code (my M) (mcc M) (mnL M) (mret M) ∈ lw_g ∧ Cond.initialized (my M).cls ∈ lw_g ∧ ((my M).cls ≠ "java/lang/invoke/MethodHandle" ∧ (my M).cls ≠ "java/lang/invoke/VarHandle" ∧ (parseMethodDescriptor (my M).desc).map (fun d => d.parameters.length) = some n)
def MVt (M : MD) : Prop := Cond.instanceMethod (my M) ∈ lw_g ∧ Cond.selects (my M).cls (my M) (my M) ∈ lw_g
def MLk (own : String) (idx : Nat) (M : MD) : Prop := Cond.methodLink own idx (my M) ∈ lw_g
theorem mws_good {M : MD} {n : Nat} (h : MOK M n) : GoodIn lw_g (mws M) := lw_goodIn (fun w hw => (List.mem_cons.mp hw).elim (fun e => e ▸ h.1) id)
theorem Bst.blind (X : Cx) (sh : SH) (h : PH) (as : List Value) : FrameBlind (va_Pc as (Bst X sh h)) := fun a U g mk q => ⟨q.1, q.2.1, va_K.moved (u := U) (U := U.calling g mk a) (Vm.Alike.refl U.vm) q.2.2.1, EXT.calling q.2.2.2.1, q.2.2.2.2⟩
theorem stand_sz {X : Cx} {p : Program} {l : Launch} {e : Env} {s : State} {m : MethodId} {args : Array Value} {below : List Frame} {meth : Method} {c : Code} {T : State} {locs : List Loc} (C : Ctx M sh0 X p s m args meth c) (Xs : Stand p l e R s m args below meth c T locs (sh.length - sh0.length) (ssz sh - ssz sh0)) (hm : sh0.length ≤ sh.length) : T.heap.size ≤ X.1 + sh.length := by
  have h1 := Xs.heapSize
  have h2 := C.2.2.2.2.2.2.2.2.2.2.2
  omega
theorem Bst.at {X : Cx} {p : Program} {s : State} {m : MethodId} {args : Array Value} {meth : Method} {c : Code} {H : Heap} {locs : List Loc} (C : Ctx M sh0 X p s m args meth c) (hr : Rep X sh h H) (hS : va_S (AA X) s.heap H locs) (hz : H.size ≤ X.1 + sh.length) (U : State) (hU : U.heap = H) (hW : s.WarmedH U.vm) : Bst X sh h U := by
  refine ⟨by rw [hU]; exact hr, va_K.moved hW.alike C.2.2.2.2.2.2.2.1, ?_, ?_, by rw [hU]; exact hz⟩
  · rw [hU]
    exact (C.2.2.2.2.2.2.2.2.1.kept hS.2.1).warm hW
  · rw [hU]
    exact Nat.le_trans C.2.2.2.2.2.2.2.2.2.1 hS.1
theorem J_tail {X : Cx} {p : Program} {l : Launch} {e : Env} {s : State} {m : MethodId} {args : Array Value} {below : List Frame} {meth : Method} {c : Code} {H : Heap} {locs : List Loc} {ls : Array Slot} {st0 : List Value} {a : Array Value} {Q2 : Option PV → PH → Prop} {T : State} (C : Ctx M sh0 X p s m args meth c) (z : Z.2 X s) (hl : LR X ls (mnL M) L) (hS : va_S (AA X) s.heap H locs) (hcr : CR R sh0 sh sh')
    (hr : va_Run p l e R s m args below meth c H locs (sh.length - sh0.length) (ssz sh - ssz sh0) (sh'.length - sh.length) (ssz sh' - ssz sh) (F0 m pc ls st0) (st.map (re X)) (QcOf X sh' Q2 a) (AA X)) (kk : ∀ r h', Q2 r h' → J M R sh0 Z (pc + 3) L (r.toList ++ st) sh' h') (hT : T.heap = H) (Xs : Stand p l e R s m args below meth c T locs (sh.length - sh0.length) (ssz sh - ssz sh0)) : ∃ t, Steps p.tables e below (T.setTop (F0 m pc ls st0)) t ∧ Z.1 X below args s t := by
  obtain ⟨v, st₀, t, T', L', h0, X', hL, e1, e2, ⟨⟨r, h', hv, hq, hrep⟩, hz, hk⟩, sts⟩ := hr T hT Xs
  cases hv
  rw [h0] at hz hk
  obtain ⟨⟨a1, a2⟩, ⟨a3, a4⟩, -, -⟩ := hcr
  rw [show sh.length - sh0.length + (sh'.length - sh.length) = sh'.length - sh0.length by omega, show ssz sh - ssz sh0 + (ssz sh' - ssz sh) = ssz sh' - ssz sh0 by omega] at X'
  obtain ⟨t2, b1, b2⟩ := kk r h' hq X p l e s m args below meth c T'.heap (locs ++ L') ls C z hl (by rw [e1]; exact hrep) ⟨Nat.le_trans hS.1 (by rw [e1]; exact hz), fun q h1 h2 => by rw [e1, hk q (Nat.lt_of_lt_of_le h1 hS.1) h2]; exact hS.2.1 q h1 h2, fun q hq => by
      rcases List.mem_append.mp hq with h | h
      · exact hS.2.2 q h
      · exact hL q h⟩ T' rfl X'
  refine ⟨t2, sts t2 ?_, b2⟩
  have e3 : (r.map (re X)).toList ++ st.map (re X) = (r.toList ++ st).map (re X) := by cases r <;> rfl
  show Steps p.tables e below (T'.setTop (F0 m (pc + 3) ls ((r.map (re X)).toList ++ st.map (re X)))) t2
  rw [e3]
  exact b1
theorem st_cat (X : Cx) (st : List PV) : ((st.map (re X)).map fun v => v.category).sum = (st.map pcat).sum := by
  rw [List.map_map]
  congr 1
  apply List.map_congr_left
  intro v _
  exact re_cat X v
/-- a call of an instance method on an own object -/
theorem J_callV {i ci c n : Nat} {as : List PV} {st0 : List PV} {Q2 : Option PV → PH → Prop} (hd : DI M pc (.invokevirtual i) 3 nx) (hk : MLk (mown M) i M2) (hok : MOK M2 n) (hv : MVt M2) (hc : sh[c]? = some (.inl ci)) (hci : ci < 11) (hcl : clR ci = (my M2).cls) (hst : st0 = as.reverse ++ pR (some c) :: st) (hn : as.length = n) (hw : (st.map pcat).sum ≤ 8) (hrm : mfr M2 + 1 ≤ R.frames ∧ 8 + (mnL M2 + 11) + mlo M2 ≤ R.locals) (hcr : CR R sh0 sh sh') (hct : Ct M2 sh sh' h (pR (some c) :: as) Q2) (kk : ∀ r h', Q2 r h' → J M R sh0 Z nx L (r.toList ++ st) sh' h') : J M R sh0 Z pc L st0 sh h := by
  intro X p l e s m args below meth cd H locs ls C z hl hr hS
  obtain ⟨hd, rfl⟩ := hd
  subst hst
  intro T hT Xs
  have hz : H.size ≤ X.1 + sh.length := by rw [← hT]; exact stand_sz C Xs hcr.1.1
  have hts := C.2.2.2.2.2.1
  have cw : CallW R s args (mown M) (clR ci) i (my M2) (mcc M2) (mnL M2) (mret M2) (mws M2) (rmOf M2 (sh'.length - sh.length) (ssz sh' - ssz sh)) (sh'.length - sh.length) (ssz sh' - ssz sh) n := ⟨callB_of n hts (mws_good hok) rfl rfl rfl (hts _ hok.2.1) (hts _ hk) hok.2.2 hrm, hts _ hv.1, by rw [hcl]; exact hts _ hv.2⟩
  have hp : PreV s H (clR ci) (X.1 + c) (va_Pc ((pR (some c) :: as).map (re X)) (Bst X sh h)) (as.map (re X)) := ⟨Bst.blind X sh h _, va_recv (D := X.2.2.1) (cl := vwCl) (ws := toW X sh h) C.2.2.2.2.2.2.2.1 hr (vwCl_at hci) (toW_at hc), fun U hU hW => ⟨rfl, Bst.at C hr hS hz U hU hW⟩⟩
  have hrun := va_runV (p := p) (e := e) (below := below) (meth := meth) (locs := locs) (cells := sh.length - sh0.length) (slots := ssz sh - ssz sh0) (g := F0 m pc ls ((as.reverse ++ pR (some c) :: st).map (re X))) (rest := st.map (re X)) ⟨C.1, C.2.1, C.2.2.2.1, C.2.2.2.2.1, hts⟩ (hct l X) cw hp rfl (by rw [List.length_map]; exact hn) hl.1 (by simp [re, va_rf]) (lv_room (by rw [st_cat]; exact hw)) hd ⟨by have := hcr.2.2.1; have := hcr.1.1; have := hcr.2.1.1; omega, by have := hcr.2.2.2; have := hcr.1.2; have := hcr.2.1.2; omega⟩
  exact J_tail C z hl hS hcr hrun kk hT Xs
/-- a call of a static method -/
theorem J_callS {i n : Nat} {as : List PV} {st0 : List PV} {Q2 : Option PV → PH → Prop} (hd : DI M pc (.invokestatic i) 3 nx) (hk : MLk (mown M) i M2) (hok : MOK M2 n) (hv : Cond.static (my M2) ∈ lw_g) (hst : st0 = as.reverse ++ st) (hn : as.length = n) (hw : (st.map pcat).sum ≤ 8) (hrm : mfr M2 + 1 ≤ R.frames ∧ 8 + (mnL M2 + 11) + mlo M2 ≤ R.locals) (hcr : CR R sh0 sh sh') (hct : Ct M2 sh sh' h as Q2) (kk : ∀ r h', Q2 r h' → J M R sh0 Z nx L (r.toList ++ st) sh' h') : J M R sh0 Z pc L st0 sh h := by
  intro X p l e s m args below meth cd H locs ls C z hl hr hS
  obtain ⟨hd, rfl⟩ := hd
  subst hst
  intro T hT Xs
  have hz : H.size ≤ X.1 + sh.length := by rw [← hT]; exact stand_sz C Xs hcr.1.1
  have hts := C.2.2.2.2.2.1
  have hp : PreS s H (va_Pc (as.map (re X)) (Bst X sh h)) (as.map (re X)) := ⟨Bst.blind X sh h _, fun U hU hW => ⟨rfl, Bst.at C hr hS hz U hU hW⟩⟩
  have hrun := va_runS (p := p) (e := e) (below := below) (meth := meth) (locs := locs) (cells := sh.length - sh0.length) (slots := ssz sh - ssz sh0) (g := F0 m pc ls ((as.reverse ++ st).map (re X))) (rest := st.map (re X)) ⟨C.1, C.2.1, C.2.2.2.1, C.2.2.2.2.1, hts⟩ (hct l X) ⟨callB_of n hts (mws_good hok) rfl rfl rfl (hts _ hok.2.1) (hts _ hk) hok.2.2 hrm, hts _ hv⟩ hp rfl (by rw [List.length_map]; exact hn) hl.1 (by simp) (lv_room (by rw [st_cat]; exact hw)) hd ⟨by have := hcr.2.2.1; have := hcr.1.1; have := hcr.2.1.1; omega, by have := hcr.2.2.2; have := hcr.1.2; have := hcr.2.1.2; omega⟩
  exact J_tail C z hl hS hcr hrun kk hT Xs
/-- a call of a nest mate's static method -/
theorem J_callSN {i n : Nat} {host : String} {as : List PV} {st0 : List PV} {Q2 : Option PV → PH → Prop} (hd : DI M pc (.invokestatic i) 3 nx) (hk : (mown M, i, my M2, host) ∈ nbL) (hok : MOK M2 n) (hv : Cond.static (my M2) ∈ lw_g) (hst : st0 = as.reverse ++ st) (hn : as.length = n) (hw : (st.map pcat).sum ≤ 8) (hrm : mfr M2 + 1 ≤ R.frames ∧ 8 + (mnL M2 + 11) + mlo M2 ≤ R.locals) (hcr : CR R sh0 sh sh') (hct : Ct M2 sh sh' h as Q2) (kk : ∀ r h', Q2 r h' → J M R sh0 Z nx L (r.toList ++ st) sh' h') : J M R sh0 Z pc L st0 sh h := by
  intro X p l e s m args below meth cd H locs ls C z hl hr hS
  obtain ⟨hd, rfl⟩ := hd
  subst hst
  intro T hT Xs
  have hz : H.size ≤ X.1 + sh.length := by rw [← hT]; exact stand_sz C Xs hcr.1.1
  have hts := C.2.2.2.2.2.1
  have hnb := C.2.2.2.2.2.2.2.2.1.2.2.2.2.2.1 _ hk
  have hp : PreS s H (va_Pc (as.map (re X)) (Bst X sh h)) (as.map (re X)) := ⟨Bst.blind X sh h _, fun U hU hW => ⟨rfl, Bst.at C hr hS hz U hU hW⟩⟩
  have hrun := va_runSN (p := p) (e := e) (below := below) (meth := meth) (locs := locs) (cells := sh.length - sh0.length) (slots := ssz sh - ssz sh0) (g := F0 m pc ls ((as.reverse ++ st).map (re X))) (rest := st.map (re X)) ⟨C.1, C.2.1, C.2.2.2.1, C.2.2.2.2.1, hts⟩ (hct l X) ⟨va_cnB n hts (mws_good hok) rfl rfl rfl hnb (hts _ hok.2.1) hok.2.2 hrm, hts _ hv, trivial⟩ hp rfl (by rw [List.length_map]; exact hn) hl.1 (by simp) (lv_room (by rw [st_cat]; exact hw)) hd ⟨by have := hcr.2.2.1; have := hcr.1.1; have := hcr.2.1.1; omega, by have := hcr.2.2.2; have := hcr.1.2; have := hcr.2.1.2; omega⟩
  exact J_tail C z hl hS hcr hrun kk hT Xs
/-- a constructor's call -/
theorem J_callI {i c n : Nat} {as : List PV} {st0 : List PV} {Q2 : Option PV → PH → Prop} (hd : DI M pc (.invokespecial i) 3 nx) (hk : MLk (mown M) i M2) (hok : MOK M2 n) (hrt : mret M2 = none) (hv : (my M2).name = "<init>" ∧ Cond.instanceMethod (my M2) ∈ lw_g) (hst : st0 = as.reverse ++ pR (some c) :: st) (hn : as.length = n) (hw : (st.map pcat).sum ≤ 8) (hrm : mfr M2 + 1 ≤ R.frames ∧ 8 + (mnL M2 + 11) + mlo M2 ≤ R.locals) (hcr : CR R sh0 sh sh') (hct : Ct M2 sh sh' h (pR (some c) :: as) Q2) (kk : ∀ r h', Q2 r h' → J M R sh0 Z nx L (r.toList ++ st) sh' h') : J M R sh0 Z pc L st0 sh h := by
  intro X p l e s m args below meth cd H locs ls C z hl hr hS
  obtain ⟨hd, rfl⟩ := hd
  subst hst
  intro T hT Xs
  have hz : H.size ≤ X.1 + sh.length := by rw [← hT]; exact stand_sz C Xs hcr.1.1
  have hts := C.2.2.2.2.2.1
  have hp : PreS s H (va_Pc ((pR (some c) :: as).map (re X)) (Bst X sh h)) (.ref (X.1 + c) :: as.map (re X)) := ⟨Bst.blind X sh h _, fun U hU hW => ⟨rfl, Bst.at C hr hS hz U hU hW⟩⟩
  have hrun := va_runI (p := p) (e := e) (below := below) (meth := meth) (locs := locs) (cells := sh.length - sh0.length) (slots := ssz sh - ssz sh0) (g := F0 m pc ls ((as.reverse ++ pR (some c) :: st).map (re X))) (rest := st.map (re X)) ⟨C.1, C.2.1, C.2.2.2.1, C.2.2.2.2.1, hts⟩ (hct l X) ⟨callB_of n hts (mws_good hok) (by unfold mws; rw [hrt]) rfl rfl (hts _ hok.2.1) (hts _ hk) hok.2.2 hrm, hv.1, hts _ hv.2⟩ hp rfl (by rw [List.length_map]; exact hn) hl.1 (by simp [re, va_rf]) (lv_room (by rw [st_cat]; exact hw)) hd ⟨by have := hcr.2.2.1; have := hcr.1.1; have := hcr.2.1.1; omega, by have := hcr.2.2.2; have := hcr.1.2; have := hcr.2.1.2; omega⟩
  exact J_tail C z hl hS hcr hrun kk hT Xs
/-- a nest mate's constructor's call -/
theorem J_callIN {i c n : Nat} {host : String} {as : List PV} {st0 : List PV} {Q2 : Option PV → PH → Prop} (hd : DI M pc (.invokespecial i) 3 nx) (hk : (mown M, i, my M2, host) ∈ nbL) (hok : MOK M2 n) (hrt : mret M2 = none) (hv : (my M2).name = "<init>" ∧ Cond.instanceMethod (my M2) ∈ lw_g) (hst : st0 = as.reverse ++ pR (some c) :: st) (hn : as.length = n) (hw : (st.map pcat).sum ≤ 8) (hrm : mfr M2 + 1 ≤ R.frames ∧ 8 + (mnL M2 + 11) + mlo M2 ≤ R.locals) (hcr : CR R sh0 sh sh') (hct : Ct M2 sh sh' h (pR (some c) :: as) Q2) (kk : ∀ r h', Q2 r h' → J M R sh0 Z nx L (r.toList ++ st) sh' h') : J M R sh0 Z pc L st0 sh h := by
  intro X p l e s m args below meth cd H locs ls C z hl hr hS
  obtain ⟨hd, rfl⟩ := hd
  subst hst
  intro T hT Xs
  have hz : H.size ≤ X.1 + sh.length := by rw [← hT]; exact stand_sz C Xs hcr.1.1
  have hts := C.2.2.2.2.2.1
  have hnb := C.2.2.2.2.2.2.2.2.1.2.2.2.2.2.1 _ hk
  have hp : PreS s H (va_Pc ((pR (some c) :: as).map (re X)) (Bst X sh h)) (.ref (X.1 + c) :: as.map (re X)) := ⟨Bst.blind X sh h _, fun U hU hW => ⟨rfl, Bst.at C hr hS hz U hU hW⟩⟩
  have hrun := va_runIN (p := p) (e := e) (below := below) (meth := meth) (locs := locs) (cells := sh.length - sh0.length) (slots := ssz sh - ssz sh0) (g := F0 m pc ls ((as.reverse ++ pR (some c) :: st).map (re X))) (rest := st.map (re X)) ⟨C.1, C.2.1, C.2.2.2.1, C.2.2.2.2.1, hts⟩ (hct l X) ⟨va_cnB n hts (mws_good hok) (by unfold mws; rw [hrt]) rfl rfl hnb (hts _ hok.2.1) hok.2.2 hrm, hv.1, hts _ hv.2⟩ hp rfl (by rw [List.length_map]; exact hn) hl.1 (by simp [re, va_rf]) (lv_room (by rw [st_cat]; exact hw)) hd ⟨by have := hcr.2.2.1; have := hcr.1.1; have := hcr.2.1.1; omega, by have := hcr.2.2.2; have := hcr.1.2; have := hcr.2.1.2; omega⟩
  exact J_tail C z hl hS hcr hrun kk hT Xs
/-! returns -/
theorem J_ireturn {x : Int32} {Q : Option PV → PH → Prop} (hd : DI M pc .ireturn 1 nx) (hrt : mret M = some .int) (hq : Q (some (pI x)) h) : J M R sh0 (ZM sh0 sh Q) pc L [pI x] sh h := by
  intro X p l e s m args below meth cd H locs ls C z hl hr hS
  exact W.iret (v := x) C.1 C.2.1 (C.2.2.1.trans hrt) (fun t ht hW => ⟨⟨some (pI x), h, rfl, hq, by rw [ht]; exact hr⟩, hS.F ht⟩) hS.2.2 hd.1 C.2.2.2.2.2.2.1
theorem J_zreturn {x : Int32} {ty : FieldType} {Q : Option PV → PH → Prop} (hd : DI M pc .ireturn 1 nx) (hrt : mret M = some ty) (hn : narrow ty (.int x) = .int x) (hq : Q (some (pI x)) h) : J M R sh0 (ZM sh0 sh Q) pc L [pI x] sh h := by
  intro X p l e s m args below meth cd H locs ls C z hl hr hS
  exact W.zret (v := x) C.1 C.2.1 (C.2.2.1.trans hrt) hn (fun t ht hW => ⟨⟨some (pI x), h, rfl, hq, by rw [ht]; exact hr⟩, hS.F ht⟩) hS.2.2 hd.1 C.2.2.2.2.2.2.1
theorem J_lreturn {x : Int64} {Q : Option PV → PH → Prop} (hd : DI M pc .lreturn 1 nx) (hrt : mret M = some .long) (hq : Q (some (pL x)) h) : J M R sh0 (ZM sh0 sh Q) pc L [pL x] sh h := by
  intro X p l e s m args below meth cd H locs ls C z hl hr hS
  exact W.lret (v := x) C.1 C.2.1 (C.2.2.1.trans hrt) (fun t ht hW => ⟨⟨some (pL x), h, rfl, hq, by rw [ht]; exact hr⟩, hS.F ht⟩) hS.2.2 hd.1 C.2.2.2.2.2.2.1
theorem J_vreturn {Q : Option PV → PH → Prop} (hd : DI M pc .return_ 1 nx) (hrt : mret M = none) (hq : Q none h) : J M R sh0 (ZM sh0 sh Q) pc L [] sh h := by
  intro X p l e s m args below meth cd H locs ls C z hl hr hS
  exact W.vret C.1 C.2.1 (C.2.2.1.trans hrt) (fun t ht hW => ⟨⟨none, h, rfl, hq, by rw [ht]; exact hr⟩, hS.F ht⟩) hS.2.2 hd.1 C.2.2.2.2.2.2.1
theorem J_xreturn {i : Nat} {rt : FieldType} {Q : Option PV → PH → Prop} (hd : DI M pc .areturn 1 nx) (hrt : mret M = some rt) (hty : (∃ n, rt = .object n) ∨ ∃ t, rt = .array t) (hq : Q (some (pX i)) h) : J M R sh0 (ZM sh0 sh Q) pc L [pX i] sh h := by
  intro X p l e s m args below meth cd H locs ls C z hl hr hS
  exact W.aret (v := .ref (X.2.1 i)) C.1 C.2.1 (C.2.2.1.trans hrt) hty (Or.inr ⟨_, rfl⟩) (fun t ht hW => ⟨⟨some (pX i), h, rfl, hq, by rw [ht]; exact hr⟩, hS.F ht⟩) hS.2.2 hd.1 C.2.2.2.2.2.2.1
/-! Math.min, System.arraycopy -/
theorem J_min {i : Nat} {x y : Int32} (hd : DI M pc (.invokestatic i) 3 nx) (hk : Cond.methodLink (mown M) i Lib.Math.min.name ∈ lw_g) (hs : Cond.static Lib.Math.min.name ∈ lw_g) (hini : Cond.initialized "java/lang/Math" ∈ lw_g) (hcode : Cond.code Lib.Math.min.name Lib.Math.min.code 2 (some .int) ∈ lw_g) (hf : 1 ≤ R.frames) (hw : (st.map pcat).sum + 13 ≤ R.locals) (hcr : CR R sh0 sh sh) (kk : J M R sh0 Z nx L (pI (if y < x then y else x) :: st) sh h) : J M R sh0 Z pc L (pI y :: pI x :: st) sh h := by
  intro X p l e s m args below meth cd H locs ls C z hl hr hS
  obtain ⟨hd, rfl⟩ := hd
  have hts := C.2.2.2.2.2.1
  exact va_mmin C.1 C.2.1 (C.2.2.2.1.trans hl.1.symm) C.2.2.2.2.1 (hts _ hk) (hts _ hs) (hts _ hini) (hts _ hcode) hf (by rw [st_cat]; exact hw) hcr.2.2.1 hcr.2.2.2 hd (kk X p l e s m args below meth cd H locs ls C z hl hr hS)
theorem J_cpyL {i c1 c2 n1 n2 : Nat} {sp dp n : Int32} (hd : DI M pc (.invokestatic i) 3 nx) (hk : Cond.methodLink (mown M) i arraycopyName ∈ lw_g) (hnat : Cond.native arraycopyName ∈ lw_g) (hs : Cond.static arraycopyName ∈ lw_g) (hini : Cond.initialized "java/lang/System" ∈ lw_g) (hc1 : sh[c1]? = some (.inr (3, n1))) (hc2 : sh[c2]? = some (.inr (3, n2))) (h1 : ¬ sp < 0) (h2 : ¬ dp < 0) (h3 : ¬ n < 0) (h4 : sp.toNatClampNeg + n.toNatClampNeg ≤ n1) (h5 : dp.toNatClampNeg + n.toNatClampNeg ≤ n2) (hf : 1 ≤ R.frames) (hw : (st.map pcat).sum + (nativeFrameWords "java/lang/System" "arraycopy" 5 + 11) ≤ R.locals) (kk : J M R sh0 Z nx L st sh (wL h c2 (va_cpy (h.2.1 c1) (h.2.1 c2) sp.toNatClampNeg dp.toNatClampNeg n.toNatClampNeg))) : J M R sh0 Z pc L (pI n :: pI dp :: pR (some c2) :: pI sp :: pR (some c1) :: st) sh h := by
  intro X p l e s m args below meth cd H locs ls C z hl hr hS
  obtain ⟨hd, rfl⟩ := hd
  have hts := C.2.2.2.2.2.1
  refine va_copyl (D := X.2.2.1) (cl := vwCl) (ws := toW X sh h) C.1 C.2.1 (C.2.2.2.1.trans hl.1.symm) C.2.2.2.2.1 (hts _ hk) (hts _ hnat) (hts _ hs) (hts _ hini) C.2.2.2.2.2.2.2.1 hr (toW_D X sh h) hS c1 c2 3 3 (toW_at hc1) (toW_at hc2) (TYs_at X (by decide)) (TYs_at X (by decide)) rfl h1 h2 h3 h4 h5 (fun _ _ => rfl) hf (by rw [st_cat]; exact hw) hd (fun H1 locs1 hP hD hS1 => ?_)
  have e2 : toE X (.inr (3, n2)) (wL h c2 (va_cpy (h.2.1 c1) (h.2.1 c2) sp.toNatClampNeg dp.toNatClampNeg n.toNatClampNeg)) c2 = .inl (X.2.2.2 3, n2, arE X.1 3 (wL h c2 (va_cpy (h.2.1 c1) (h.2.1 c2) sp.toNatClampNeg dp.toNatClampNeg n.toNatClampNeg)) c2) := rfl
  refine kk X p l e s m args below meth cd H1 locs1 ls C z hl (Rep.set (H0 := s.heap) (locs := locs1) hr hc2 (s := .inr (3, n2)) ?_ (fun a s' ha _ => toE_wL ha)) hS1
  rw [e2]
  simp only [arE, wL, up2_self]
  exact hP
theorem J_cpyI {i c1 c2 n1 n2 : Nat} {sp dp n : Int32} (hd : DI M pc (.invokestatic i) 3 nx) (hk : Cond.methodLink (mown M) i arraycopyName ∈ lw_g) (hnat : Cond.native arraycopyName ∈ lw_g) (hs : Cond.static arraycopyName ∈ lw_g) (hini : Cond.initialized "java/lang/System" ∈ lw_g) (hc1 : sh[c1]? = some (.inr (0, n1))) (hc2 : sh[c2]? = some (.inr (0, n2))) (h1 : ¬ sp < 0) (h2 : ¬ dp < 0) (h3 : ¬ n < 0) (h4 : sp.toNatClampNeg + n.toNatClampNeg ≤ n1) (h5 : dp.toNatClampNeg + n.toNatClampNeg ≤ n2) (hf : 1 ≤ R.frames) (hw : (st.map pcat).sum + (nativeFrameWords "java/lang/System" "arraycopy" 5 + 11) ≤ R.locals) (kk : J M R sh0 Z nx L st sh (wI h c2 (va_cpy (h.1 c1) (h.1 c2) sp.toNatClampNeg dp.toNatClampNeg n.toNatClampNeg))) : J M R sh0 Z pc L (pI n :: pI dp :: pR (some c2) :: pI sp :: pR (some c1) :: st) sh h := by
  intro X p l e s m args below meth cd H locs ls C z hl hr hS
  obtain ⟨hd, rfl⟩ := hd
  have hts := C.2.2.2.2.2.1
  refine va_copyi (D := X.2.2.1) (cl := vwCl) (ws := toW X sh h) C.1 C.2.1 (C.2.2.2.1.trans hl.1.symm) C.2.2.2.2.1 (hts _ hk) (hts _ hnat) (hts _ hs) (hts _ hini) C.2.2.2.2.2.2.2.1 hr (toW_D X sh h) hS c1 c2 0 0 (toW_at hc1) (toW_at hc2) (TYs_at X (by decide)) (TYs_at X (by decide)) rfl h1 h2 h3 h4 h5 (fun _ _ => rfl) hf (by rw [st_cat]; exact hw) hd (fun H1 locs1 hP hD hS1 => ?_)
  have e2 : toE X (.inr (0, n2)) (wI h c2 (va_cpy (h.1 c1) (h.1 c2) sp.toNatClampNeg dp.toNatClampNeg n.toNatClampNeg)) c2 = .inl (X.2.2.2 0, n2, arE X.1 0 (wI h c2 (va_cpy (h.1 c1) (h.1 c2) sp.toNatClampNeg dp.toNatClampNeg n.toNatClampNeg)) c2) := rfl
  refine kk X p l e s m args below meth cd H1 locs1 ls C z hl (Rep.set (H0 := s.heap) (locs := locs1) hr hc2 (s := .inr (0, n2)) ?_ (fun a s' ha _ => toE_wI ha)) hS1
  rw [e2]
  simp only [arE, wI, up2_self]
  exact hP
/-! what lies outside: tables and texts -/
theorem J_gets {i : Nat} {own n d : String} {v : PV} (hd : DI M pc (.getstatic i) 3 nx) (hk : Cond.fieldLink (mown M) i own n d ∈ lw_g) (hz : ∀ (X : Cx) (U : State) (H : Heap), EXT X U H → va_Z own n d (re X v) (AA X) U H) (kk : J M R sh0 Z nx L (v :: st) sh h) : J M R sh0 Z pc L st sh h := by
  intro X p l e s m args below meth cd H locs ls C z hl hr hS
  obtain ⟨hd, rfl⟩ := hd
  exact va_gets C.1 C.2.1 (hz X s s.heap C.2.2.2.2.2.2.2.2.1) hS C.2.2.2.2.1 (C.2.2.2.2.2.1 _ hk) (fun _ q => q) hd (kk X p l e s m args below meth cd H locs ls C z hl hr hS)
theorem J_xiald {e0 N : Nat} {t : Nat → Int32} {i : Int32} (hd : DI M pc .iaload 1 nx) (hT : ∀ (X : Cx) (U : State) (H : Heap), EXT X U H → va_T .int (X.2.1 e0) N (fun j => .int (t j)) (AA X) U H) (hi : vp_in i N) (kk : J M R sh0 Z nx L (pI (t i.toNatClampNeg) :: st) sh h) : J M R sh0 Z pc L (pI i :: pX e0 :: st) sh h := by
  intro X p l e s m args below meth cd H locs ls C z hl hr hS
  obtain ⟨hd, rfl⟩ := hd
  exact va_ti C.1 C.2.1 (hT X s s.heap C.2.2.2.2.2.2.2.2.1) hS hi rfl hd (kk X p l e s m args below meth cd H locs ls C z hl hr hS)
end JC
