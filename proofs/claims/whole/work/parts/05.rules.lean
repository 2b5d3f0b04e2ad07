/-! ===== THE JUDGEMENT J: the machine stands in method M at pc with these locals, stack and cells; it comes to the end Z ===== -/
def mcode (M : MD) : Cond := .code (my M) (mcc M) (mnL M) (mret M)
def mws (M : MD) : List Cond := .code (my M) (mcc M) (mnL M) (mret M) :: lw_g
def rmOf (M : MD) (mc ms : Nat) : Room := { frames := mfr M, cells := mc, slots := ms, locals := mlo M }
def Bst (X : Cx) (sh : SH) (h : PH) (U : State) : Prop := Rep X sh h U.heap ∧ va_K X.2.2.1 vwCl (TYs X) U ∧ EXT X U U.heap ∧ X.1 ≤ U.heap.size ∧ U.heap.size ≤ X.1 + sh.length
def QcOf (X : Cx) (shT : SH) (Q : Option PV → PH → Prop) : Array Value → State → Outcome → State → Prop := fun _ st o t => (∃ (r : Option PV) (h' : PH), o = .returned (r.map (re X)) ∧ Q r h' ∧ Rep X shT h' t.heap) ∧ va_F (AA X) st t
/-- a method's contract: with these cells and arguments it returns, and answer and cells are such as Q says; the shapes then are shT -/
def Ct (M : MD) (sh shT : SH) (h : PH) (as : List PV) (Q : Option PV → PH → Prop) : Prop :=
  ∀ (l : Launch) (X : Cx), Met l (my M) (mws M) (rmOf M (shT.length - sh.length) (ssz shT - ssz sh)) (va_Pc (as.map (re X)) (Bst X sh h)) (QcOf X shT Q) (shT.length - sh.length) (ssz shT - ssz sh) (AA X)
def LR (X : Cx) (ls : Array Slot) (nL : Nat) (L : List (Option PV)) : Prop := ls.size = nL ∧ lv_wf ls ∧ ∀ (i : Nat) (v : PV), L[i]? = some (some v) → ls[i]? = some (.val (re X v))
def Ctx (M : MD) (sh0 : SH) (X : Cx) (p : Program) (s : State) (m : MethodId) (args : Array Value) (meth : Method) (c : Code) : Prop :=
  p.tables.exec = Jvm.exec ∧ c.code = mcc M ∧ meth.sig.returnType = mret M ∧ c.maxLocals = mnL M ∧ s.vm.findClass (mown M) = some m.cls ∧ (∀ w ∈ lw_g, w.before args s = true) ∧ meth.locks = false ∧ va_K X.2.2.1 vwCl (TYs X) s ∧ EXT X s s.heap ∧ X.1 ≤ s.heap.size ∧ meth.name = (my M).name ∧ s.heap.size ≤ X.1 + sh0.length
abbrev ZT : Type := (Cx → List Frame → Array Value → State → State → Prop) × (Cx → State → Prop)
def ZM (sh0 shT : SH) (Q : Option PV → PH → Prop) : ZT := (fun X below args s => MQ below (QcOf X shT Q) args s (shT.length - sh0.length) (ssz shT - ssz sh0) (AA X), fun _ _ => True)
def J (M : MD) (R : Room) (sh0 : SH) (Z : ZT) (pc : Nat) (L : List (Option PV)) (st : List PV) (sh : SH) (h : PH) : Prop :=
  ∀ (X : Cx) (p : Program) (l : Launch) (e : Env) (s : State) (m : MethodId) (args : Array Value) (below : List Frame) (meth : Method) (c : Code) (H : Heap) (locs : List Loc) (ls : Array Slot),
    Ctx M sh0 X p s m args meth c → Z.2 X s → LR X ls (mnL M) L → Rep X sh h H → va_S (AA X) s.heap H locs →
    W p l e R s m args below meth c H locs (sh.length - sh0.length) (ssz sh - ssz sh0) (Z.1 X below args s) (F0 m pc ls (st.map (re X)))
/-! locals -/
def al (X : Cx) (L : List (Option PV)) : List (Nat × Value) := (List.range L.length).filterMap (fun i => match L[i]? with | some (some v) => some (i, re X v) | _ => none)
theorem al_mem {X : Cx} {L : List (Option PV)} {q : Nat × Value} (h : q ∈ al X L) : ∃ v, L[q.1]? = some (some v) ∧ q.2 = re X v := by
  unfold al at h
  obtain ⟨i, -, hi⟩ := List.mem_filterMap.mp h
  revert hi
  cases e : L[i]? with
  | none => intro hi; cases hi
  | some w =>
    cases w with
    | none => intro hi; cases hi
    | some v =>
      intro hi
      cases hi
      exact ⟨v, e, rfl⟩
theorem al_in {X : Cx} {L : List (Option PV)} {i : Nat} {v : PV} (h : L[i]? = some (some v)) : (i, re X v) ∈ al X L := by
  unfold al
  refine List.mem_filterMap.mpr ⟨i, List.mem_range.mpr (List.getElem?_eq_some_iff.mp h).1, ?_⟩
  rw [h]
theorem LR.has {X : Cx} {ls : Array Slot} {nL : Nat} {L : List (Option PV)} (h : LR X ls nL L) : lv_has ls nL (al X L) := by
  refine ⟨h.1, h.2.1, fun q hq => ?_⟩
  obtain ⟨v, h1, h2⟩ := al_mem hq
  rw [h2]
  exact h.2.2 _ _ h1
def killL (L : List (Option PV)) (i : Nat) : List (Option PV) := match i with
  | 0 => L
  | j + 1 => match L[j]? with
    | some (some (.inr (.inl _))) => L.set j none
    | _ => L
def st1 (L : List (Option PV)) (i : Nat) (v : PV) : List (Option PV) := (killL L i).set i (some v)
def st2 (L : List (Option PV)) (i : Nat) (v : PV) : List (Option PV) := ((killL L i).set (i + 1) none).set i (some v)
theorem killL_at {L : List (Option PV)} {i j : Nat} {w : PV} (h : (killL L i)[j]? = some (some w)) : L[j]? = some (some w) ∧ ¬ (j + 1 = i ∧ pcat w = 2) := by
  cases i with
  | zero => exact ⟨h, fun q => by omega⟩
  | succ i =>
    unfold killL at h
    cases e : L[i]? with
    | none =>
      simp only [e] at h
      refine ⟨h, fun q => ?_⟩
      have : j = i := by omega
      subst this
      rw [e] at h
      cases h
    | some z =>
      cases z with
      | none =>
        simp only [e] at h
        refine ⟨h, fun q => ?_⟩
        have : j = i := by omega
        subst this
        rw [e] at h
        cases h
      | some v =>
        rcases v with x | x | x | x
        · simp only [e] at h
          refine ⟨h, fun q => ?_⟩
          have : j = i := by omega
          subst this
          rw [e] at h
          cases h
          exact absurd q.2 (by simp [pcat])
        · simp only [e] at h
          by_cases hj : i = j
          · subst hj
            by_cases hl : i < L.length
            · rw [List.getElem?_set_self hl] at h
              cases h
            · rw [List.getElem?_eq_none (by simp; omega)] at h
              cases h
          · rw [List.getElem?_set_ne hj] at h
            exact ⟨h, fun q => by omega⟩
        · simp only [e] at h
          refine ⟨h, fun q => ?_⟩
          have : j = i := by omega
          subst this
          rw [e] at h
          cases h
          exact absurd q.2 (by simp [pcat])
        · simp only [e] at h
          refine ⟨h, fun q => ?_⟩
          have : j = i := by omega
          subst this
          rw [e] at h
          cases h
          exact absurd q.2 (by simp [pcat])
theorem LR_st1 {X : Cx} {ls' : Array Slot} {nL i : Nat} {L : List (Option PV)} {v : PV} (h : lv_has ls' nL ((i, re X v) :: (al X L).filter (fun q => !(q.1 == i) && !(q.1 + 1 == i && q.2.category == 2)))) : LR X ls' nL (st1 L i v) := by
  refine ⟨h.1, h.2.1, fun j w hj => ?_⟩
  unfold st1 at hj
  by_cases e : i = j
  · subst e
    by_cases hl : i < (killL L i).length
    · rw [List.getElem?_set_self hl] at hj
      cases hj
      exact h.2.2 (i, re X v) List.mem_cons_self
    · rw [List.getElem?_eq_none (by simp; omega)] at hj
      cases hj
  · rw [List.getElem?_set_ne e] at hj
    obtain ⟨h1, h2⟩ := killL_at hj
    refine h.2.2 (j, re X w) (List.mem_cons_of_mem _ (List.mem_filter.mpr ⟨al_in h1, ?_⟩))
    simp only [re_cat, Bool.and_eq_true, Bool.not_eq_true', beq_eq_false_iff_ne, ne_eq, Bool.and_eq_false_iff]
    refine ⟨fun q => e q.symm, ?_⟩
    by_cases q1 : j + 1 = i
    · exact Or.inr (fun q2 => h2 ⟨q1, q2⟩)
    · exact Or.inl q1
theorem LR_st2 {X : Cx} {ls' : Array Slot} {nL i : Nat} {L : List (Option PV)} {v : PV} (h : lv_has ls' nL ((i, re X v) :: (al X L).filter (fun q => !(q.1 == i) && (!(q.1 == i + 1) && !(q.1 + 1 == i && q.2.category == 2))))) : LR X ls' nL (st2 L i v) := by
  refine ⟨h.1, h.2.1, fun j w hj => ?_⟩
  unfold st2 at hj
  by_cases e : i = j
  · subst e
    by_cases hl : i < ((killL L i).set (i + 1) none).length
    · rw [List.getElem?_set_self hl] at hj
      cases hj
      exact h.2.2 (i, re X v) List.mem_cons_self
    · rw [List.getElem?_eq_none (by simp at hl ⊢; omega)] at hj
      cases hj
  · rw [List.getElem?_set_ne e] at hj
    by_cases e1 : i + 1 = j
    · subst e1
      by_cases hl : i + 1 < (killL L i).length
      · rw [List.getElem?_set_self hl] at hj
        cases hj
      · rw [List.getElem?_eq_none (by simp; omega)] at hj
        cases hj
    · rw [List.getElem?_set_ne e1] at hj
      obtain ⟨h1, h2⟩ := killL_at hj
      refine h.2.2 (j, re X w) (List.mem_cons_of_mem _ (List.mem_filter.mpr ⟨al_in h1, ?_⟩))
      simp only [re_cat, Bool.and_eq_true, Bool.not_eq_true', beq_eq_false_iff_ne, ne_eq, Bool.and_eq_false_iff]
      refine ⟨fun q => e q.symm, fun q => e1 q.symm, ?_⟩
      by_cases q1 : j + 1 = i
      · exact Or.inr (fun q2 => h2 ⟨q1, q2⟩)
      · exact Or.inl q1
/-! the locals with which a method begins -/
def flL (as : List PV) : List (Option PV) := as.flatMap (fun v => if pcat v = 2 then [some v, none] else [some v])
def entL (n : Nat) (as : List PV) : List (Option PV) := flL as ++ List.replicate (n - (flL as).length) none
theorem flL_in (X : Cx) : ∀ (as : List PV) (o i : Nat) (v : PV), (flL as)[i]? = some (some v) → (o + i, re X v) ∈ lv_args o (as.map (re X))
  | [], o, i, v, h => by simp [flL] at h
  | a :: as, o, i, v, h => by
    have e : flL (a :: as) = (if pcat a = 2 then [some a, none] else [some a]) ++ flL as := rfl
    rw [e] at h
    show (o + i, re X v) ∈ (o, re X a) :: lv_args (if (re X a).category = 2 then o + 2 else o + 1) (as.map (re X))
    rw [re_cat]
    by_cases hc : pcat a = 2
    · rw [if_pos hc] at h ⊢
      match i, h with
      | 0, h => cases h; exact List.mem_cons_self
      | 1, h => cases h
      | i + 2, h =>
        have h2 : (flL as)[i]? = some (some v) := h
        have := flL_in X as (o + 2) i v h2
        rw [show o + (i + 2) = o + 2 + i by omega]
        exact List.mem_cons_of_mem _ this
    · rw [if_neg hc] at h ⊢
      match i, h with
      | 0, h => cases h; exact List.mem_cons_self
      | i + 1, h =>
        have h2 : (flL as)[i]? = some (some v) := h
        have := flL_in X as (o + 1) i v h2
        rw [show o + (i + 1) = o + 1 + i by omega]
        exact List.mem_cons_of_mem _ this
theorem lg_sl_len (X : Cx) : ∀ as : List PV, (lg_sl (as.map (re X))).length = (flL as).length
  | [] => rfl
  | a :: as => by
    have e : flL (a :: as) = (if pcat a = 2 then [some a, none] else [some a]) ++ flL as := rfl
    have e2 : lg_sl ((a :: as).map (re X)) = (if (re X a).category = 2 then [.val (re X a), .second] else [.val (re X a)]) ++ lg_sl (as.map (re X)) := rfl
    rw [e, e2, List.length_append, List.length_append, lg_sl_len X as, re_cat]
    by_cases hc : pcat a = 2
    · rw [if_pos hc, if_pos hc]; rfl
    · rw [if_neg hc, if_neg hc]; rfl
theorem LR.ent (X : Cx) (as : List PV) {n : Nat} (hn : (flL as).length ≤ n) : LR X ((lg_sl (as.map (re X)) ++ List.replicate (n - (lg_sl (as.map (re X))).length) Slot.unset).toArray) n (entL n as) := by
  have h := lv_entry (as.map (re X)) (n := n) (by rw [lg_sl_len]; exact hn)
  refine ⟨h.1, h.2.1, fun i v hi => ?_⟩
  unfold entL at hi
  have hi2 : (flL as)[i]? = some (some v) := by
    by_cases hl : i < (flL as).length
    · rw [List.getElem?_append_left hl] at hi
      exact hi
    · rw [List.getElem?_append_right (by omega)] at hi
      have := List.eq_of_mem_replicate (List.mem_of_getElem? hi)
      cases this
  have := h.2.2 _ (flL_in X as 0 i v hi2)
  simpa using this
theorem Ct.of {M : MD} {sh shT : SH} {h : PH} {as : List PV} {Q : Option PV → PH → Prop} {L : List (Option PV)} (hp : plainName (my M).cls = true) (hown : (my M).cls = mown M) (hn : (flL as).length ≤ mnL M) (hL : entL (mnL M) as = L) (hJ : J M (rmOf M (shT.length - sh.length) (ssz shT - ssz sh)) sh (ZM sh shT Q) 0 L [] sh h) : Ct M sh shT h as Q := by
  intro l X
  refine Met.ofW (cc := mcc M) (maxL := mnL M) (ret := mret M) hp rfl ?_
  intro p e s m args below meth c s₁ B hml hv
  obtain ⟨rfl, hr, hK, hE, hsz, hsz2⟩ := hv
  have hts := atoms_spec (ws := mws M) B.pre
  have ho : s.vm.findClass (mown M) = some m.cls := by rw [← hown]; exact findClass_of_methodNamed B.named
  rw [lg_entry_eq]
  have hl := LR.ent X as hn
  rw [hL] at hl
  have h0 := hJ X p l e s m ((as.map (re X)).toArray) below meth c s.heap [] _ ⟨B.exec, B.bytes, B.returns, hml, ho, fun w hw => hts w (List.mem_cons_of_mem _ hw), B.notSynchronized, hK, hE, hsz, (name_of_methodNamed B.named B.method).1, hsz2⟩ trivial hl hr va_S.rf
  rw [Nat.sub_self, Nat.sub_self] at h0
  exact h0
theorem Ct.mono {M : MD} {sh shT : SH} {h : PH} {as : List PV} {Q Q' : Option PV → PH → Prop} (hc : Ct M sh shT h as Q) (hq : ∀ r h', Q r h' → Q' r h') : Ct M sh shT h as Q' := by
  intro l X
  have := hc l X
  unfold Met at this ⊢
  intro p e ha hb hk s m args below hf happ hP hK
  obtain ⟨n, o, h1, h2, h3, ⟨⟨⟨r, h', q1, q2, q3⟩, q4⟩, q5⟩⟩ := this p e ha hb hk s m args below hf happ hP hK
  exact ⟨n, o, h1, h2, h3, ⟨⟨r, h', q1, hq _ _ q2, q3⟩, q4⟩, q5⟩
section JR
variable {M : MD} {R : Room} {sh0 : SH} {Z : ZT} {pc nx : Nat} {L : List (Option PV)} {st : List PV} {sh : SH} {h : PH}
theorem J_iconst {n : Int} {x : Int32} (hd : DI M pc (.iconst n) 1 nx) (hx : Int32.ofInt n = x) (k : J M R sh0 Z nx L (pI x :: st) sh h) : J M R sh0 Z pc L (st) sh h := by
  intro X p l e s m args below meth c H locs ls C z hl hr hS
  obtain ⟨hd, rfl⟩ := hd
  exact lv_iconst C.1 C.2.1 hd hx (k X p l e s m args below meth c H locs ls C z hl hr hS)
theorem J_bipush {n : Int} {x : Int32} (hd : DI M pc (.bipush n) 2 nx) (hx : (Int8.ofInt n).toInt32 = x) (k : J M R sh0 Z nx L (pI x :: st) sh h) : J M R sh0 Z pc L (st) sh h := by
  intro X p l e s m args below meth c H locs ls C z hl hr hS
  obtain ⟨hd, rfl⟩ := hd
  exact lv_bipush C.1 C.2.1 hd hx (k X p l e s m args below meth c H locs ls C z hl hr hS)
theorem J_sipush {n : Int} {x : Int32} (hd : DI M pc (.sipush n) 3 nx) (hx : (Int16.ofInt n).toInt32 = x) (k : J M R sh0 Z nx L (pI x :: st) sh h) : J M R sh0 Z pc L (st) sh h := by
  intro X p l e s m args below meth c H locs ls C z hl hr hS
  obtain ⟨hd, rfl⟩ := hd
  exact lv_sipush C.1 C.2.1 hd hx (k X p l e s m args below meth c H locs ls C z hl hr hS)
theorem J_lconst {n : Fin 2} {x : Int64} (hd : DI M pc (.lconst n) 1 nx) (hx : Int64.ofNat (n : Nat) = x) (k : J M R sh0 Z nx L (pL x :: st) sh h) : J M R sh0 Z pc L (st) sh h := by
  intro X p l e s m args below meth c H locs ls C z hl hr hS
  obtain ⟨hd, rfl⟩ := hd
  exact lv_lconst C.1 C.2.1 hd hx (k X p l e s m args below meth c H locs ls C z hl hr hS)
theorem J_ldc2 {i : Nat} {x : Int64} (hd : DI M pc (.ldc2_w i) 3 nx) (hx : Cond.constantLong (mown M) i x ∈ lw_g) (k : J M R sh0 Z nx L (pL x :: st) sh h) : J M R sh0 Z pc L (st) sh h := by
  intro X p l e s m args below meth c H locs ls C z hl hr hS
  obtain ⟨hd, rfl⟩ := hd
  exact lv_ldc2 C.1 C.2.1 C.2.2.2.2.1 (C.2.2.2.2.2.1 _ hx) hd (k X p l e s m args below meth c H locs ls C z hl hr hS)
theorem J_ldc {i : Nat} {x : Int32} (hd : DI M pc (.ldc i) 2 nx) (hx : Cond.constant (mown M) i x ∈ lw_g) (k : J M R sh0 Z nx L (pI x :: st) sh h) : J M R sh0 Z pc L (st) sh h := by
  intro X p l e s m args below meth c H locs ls C z hl hr hS
  obtain ⟨hd, rfl⟩ := hd
  exact lv_ldc C.1 C.2.1 C.2.2.2.2.1 (C.2.2.2.2.2.1 _ hx) hd (k X p l e s m args below meth c H locs ls C z hl hr hS)
theorem J_ldcw {i : Nat} {x : Int32} (hd : DI M pc (.ldc_w i) 3 nx) (hx : Cond.constant (mown M) i x ∈ lw_g) (k : J M R sh0 Z nx L (pI x :: st) sh h) : J M R sh0 Z pc L (st) sh h := by
  intro X p l e s m args below meth c H locs ls C z hl hr hS
  obtain ⟨hd, rfl⟩ := hd
  exact lv_ldcw C.1 C.2.1 C.2.2.2.2.1 (C.2.2.2.2.2.1 _ hx) hd (k X p l e s m args below meth c H locs ls C z hl hr hS)
theorem J_ldcS (i : Nat) (hd : DI M pc (.ldc (idxS i)) 2 nx) (hi : i < nJS) (ho : ownS i = mown M) (k : J M R sh0 Z nx L (pX i :: st) sh h) : J M R sh0 Z pc L (st) sh h := by
  intro X p l e s m args below meth c H locs ls C z hl hr hS
  obtain ⟨hd, rfl⟩ := hd
  exact va_ldcS C.1 C.2.1 C.2.2.2.2.1 (ho ▸ C.2.2.2.2.2.2.2.2.1.2.1 i hi) hd (k X p l e s m args below meth c H locs ls C z hl hr hS)
theorem J_iload_n {q : Fin 4} {x : Int32} (hd : DI M pc (.iload_n q) 1 nx) (hx : L[(q : Nat)]? = some (some (pI x))) (k : J M R sh0 Z nx L (pI x :: st) sh h) : J M R sh0 Z pc L (st) sh h := by
  intro X p l e s m args below meth c H locs ls C z hl hr hS
  obtain ⟨hd, rfl⟩ := hd
  exact lv_iload_n C.1 C.2.1 hd rfl (hl.2.2 _ _ hx) (k X p l e s m args below meth c H locs ls C z hl hr hS)
theorem J_iload {q : Nat} {x : Int32} (hd : DI M pc (.iload q) 2 nx) (hx : L[q]? = some (some (pI x))) (k : J M R sh0 Z nx L (pI x :: st) sh h) : J M R sh0 Z pc L (st) sh h := by
  intro X p l e s m args below meth c H locs ls C z hl hr hS
  obtain ⟨hd, rfl⟩ := hd
  exact lv_iload C.1 C.2.1 hd (hl.2.2 _ _ hx) (k X p l e s m args below meth c H locs ls C z hl hr hS)
theorem J_lload_n {q : Fin 4} {x : Int64} (hd : DI M pc (.lload_n q) 1 nx) (hx : L[(q : Nat)]? = some (some (pL x))) (k : J M R sh0 Z nx L (pL x :: st) sh h) : J M R sh0 Z pc L (st) sh h := by
  intro X p l e s m args below meth c H locs ls C z hl hr hS
  obtain ⟨hd, rfl⟩ := hd
  exact lv_lload_n C.1 C.2.1 hd rfl (hl.2.2 _ _ hx) (k X p l e s m args below meth c H locs ls C z hl hr hS)
theorem J_lload {q : Nat} {x : Int64} (hd : DI M pc (.lload q) 2 nx) (hx : L[q]? = some (some (pL x))) (k : J M R sh0 Z nx L (pL x :: st) sh h) : J M R sh0 Z pc L (st) sh h := by
  intro X p l e s m args below meth c H locs ls C z hl hr hS
  obtain ⟨hd, rfl⟩ := hd
  exact lv_lload C.1 C.2.1 hd (hl.2.2 _ _ hx) (k X p l e s m args below meth c H locs ls C z hl hr hS)
theorem J_aload_n {q : Fin 4} {x : Nat} (hd : DI M pc (.aload_n q) 1 nx) (hx : L[(q : Nat)]? = some (some (pR (some x)))) (k : J M R sh0 Z nx L (pR (some x) :: st) sh h) : J M R sh0 Z pc L (st) sh h := by
  intro X p l e s m args below meth c H locs ls C z hl hr hS
  obtain ⟨hd, rfl⟩ := hd
  exact lv_aload_n C.1 C.2.1 hd rfl (hl.2.2 _ _ hx) (k X p l e s m args below meth c H locs ls C z hl hr hS)
theorem J_aload {q : Nat} {x : Nat} (hd : DI M pc (.aload q) 2 nx) (hx : L[q]? = some (some (pR (some x)))) (k : J M R sh0 Z nx L (pR (some x) :: st) sh h) : J M R sh0 Z pc L (st) sh h := by
  intro X p l e s m args below meth c H locs ls C z hl hr hS
  obtain ⟨hd, rfl⟩ := hd
  exact lv_aload C.1 C.2.1 hd (hl.2.2 _ _ hx) (k X p l e s m args below meth c H locs ls C z hl hr hS)
theorem J_xload_n {q : Fin 4} {x : Nat} (hd : DI M pc (.aload_n q) 1 nx) (hx : L[(q : Nat)]? = some (some (pX x))) (k : J M R sh0 Z nx L (pX x :: st) sh h) : J M R sh0 Z pc L (st) sh h := by
  intro X p l e s m args below meth c H locs ls C z hl hr hS
  obtain ⟨hd, rfl⟩ := hd
  exact lv_aload_n C.1 C.2.1 hd rfl (hl.2.2 _ _ hx) (k X p l e s m args below meth c H locs ls C z hl hr hS)
theorem J_xload {q : Nat} {x : Nat} (hd : DI M pc (.aload q) 2 nx) (hx : L[q]? = some (some (pX x))) (k : J M R sh0 Z nx L (pX x :: st) sh h) : J M R sh0 Z pc L (st) sh h := by
  intro X p l e s m args below meth c H locs ls C z hl hr hS
  obtain ⟨hd, rfl⟩ := hd
  exact lv_aload C.1 C.2.1 hd (hl.2.2 _ _ hx) (k X p l e s m args below meth c H locs ls C z hl hr hS)
theorem J_istore_n {q : Fin 4} {x : Int32} {L' : List (Option PV)} (hd : DI M pc (.istore_n q) 1 nx) (hq : (q : Nat) < mnL M) (hL : st1 L (q : Nat) (pI x) = L') (k : J M R sh0 Z nx L' st sh h) : J M R sh0 Z pc L (pI x :: st) sh h := by
  intro X p l e s m args below meth c H locs ls C z hl hr hS
  obtain ⟨hd, rfl⟩ := hd
  exact lv_istore_n C.1 C.2.1 hd rfl hl.has hq rfl (fun ls' hl' => k X p l e s m args below meth c H locs ls' C z (hL ▸ LR_st1 hl') hr hS)
theorem J_lstore_n {q : Fin 4} {x : Int64} {L' : List (Option PV)} (hd : DI M pc (.lstore_n q) 1 nx) (hq : (q : Nat) + 1 < mnL M) (hL : st2 L (q : Nat) (pL x) = L') (k : J M R sh0 Z nx L' st sh h) : J M R sh0 Z pc L (pL x :: st) sh h := by
  intro X p l e s m args below meth c H locs ls C z hl hr hS
  obtain ⟨hd, rfl⟩ := hd
  exact lv_lstore_n C.1 C.2.1 hd rfl hl.has hq rfl (fun ls' hl' => k X p l e s m args below meth c H locs ls' C z (hL ▸ LR_st2 hl') hr hS)
theorem J_astore_n {q : Fin 4} {x : Nat} {L' : List (Option PV)} (hd : DI M pc (.astore_n q) 1 nx) (hq : (q : Nat) < mnL M) (hL : st1 L (q : Nat) (pR (some x)) = L') (k : J M R sh0 Z nx L' st sh h) : J M R sh0 Z pc L (pR (some x) :: st) sh h := by
  intro X p l e s m args below meth c H locs ls C z hl hr hS
  obtain ⟨hd, rfl⟩ := hd
  exact lv_astore_n C.1 C.2.1 hd rfl hl.has hq rfl (fun ls' hl' => k X p l e s m args below meth c H locs ls' C z (hL ▸ LR_st1 hl') hr hS)
theorem J_xstore_n {q : Fin 4} {x : Nat} {L' : List (Option PV)} (hd : DI M pc (.astore_n q) 1 nx) (hq : (q : Nat) < mnL M) (hL : st1 L (q : Nat) (pX x) = L') (k : J M R sh0 Z nx L' st sh h) : J M R sh0 Z pc L (pX x :: st) sh h := by
  intro X p l e s m args below meth c H locs ls C z hl hr hS
  obtain ⟨hd, rfl⟩ := hd
  exact lv_astore_n C.1 C.2.1 hd rfl hl.has hq rfl (fun ls' hl' => k X p l e s m args below meth c H locs ls' C z (hL ▸ LR_st1 hl') hr hS)
theorem J_istore {q : Nat} {x : Int32} {L' : List (Option PV)} (hd : DI M pc (.istore q) 2 nx) (hq : q < mnL M) (hL : st1 L q (pI x) = L') (k : J M R sh0 Z nx L' st sh h) : J M R sh0 Z pc L (pI x :: st) sh h := by
  intro X p l e s m args below meth c H locs ls C z hl hr hS
  obtain ⟨hd, rfl⟩ := hd
  exact lv_istore C.1 C.2.1 hd hl.has hq rfl (fun ls' hl' => k X p l e s m args below meth c H locs ls' C z (hL ▸ LR_st1 hl') hr hS)
theorem J_lstore {q : Nat} {x : Int64} {L' : List (Option PV)} (hd : DI M pc (.lstore q) 2 nx) (hq : q + 1 < mnL M) (hL : st2 L q (pL x) = L') (k : J M R sh0 Z nx L' st sh h) : J M R sh0 Z pc L (pL x :: st) sh h := by
  intro X p l e s m args below meth c H locs ls C z hl hr hS
  obtain ⟨hd, rfl⟩ := hd
  exact lv_lstore C.1 C.2.1 hd hl.has hq rfl (fun ls' hl' => k X p l e s m args below meth c H locs ls' C z (hL ▸ LR_st2 hl') hr hS)
theorem J_astore {q : Nat} {x : Nat} {L' : List (Option PV)} (hd : DI M pc (.astore q) 2 nx) (hq : q < mnL M) (hL : st1 L q (pR (some x)) = L') (k : J M R sh0 Z nx L' st sh h) : J M R sh0 Z pc L (pR (some x) :: st) sh h := by
  intro X p l e s m args below meth c H locs ls C z hl hr hS
  obtain ⟨hd, rfl⟩ := hd
  exact lv_astore C.1 C.2.1 hd hl.has hq rfl (fun ls' hl' => k X p l e s m args below meth c H locs ls' C z (hL ▸ LR_st1 hl') hr hS)
theorem J_xstore {q : Nat} {x : Nat} {L' : List (Option PV)} (hd : DI M pc (.astore q) 2 nx) (hq : q < mnL M) (hL : st1 L q (pX x) = L') (k : J M R sh0 Z nx L' st sh h) : J M R sh0 Z pc L (pX x :: st) sh h := by
  intro X p l e s m args below meth c H locs ls C z hl hr hS
  obtain ⟨hd, rfl⟩ := hd
  exact lv_astore C.1 C.2.1 hd hl.has hq rfl (fun ls' hl' => k X p l e s m args below meth c H locs ls' C z (hL ▸ LR_st1 hl') hr hS)
theorem J_iinc {q : Nat} {n : Int} {x y : Int32} {L' : List (Option PV)} (hd : DI M pc (.iinc q n) 3 nx) (hx : L[q]? = some (some (pI x))) (hy : x + Int32.ofInt n = y) (hq : q < mnL M) (hL : st1 L q (pI y) = L') (k : J M R sh0 Z nx L' st sh h) : J M R sh0 Z pc L st sh h := by
  intro X p l e s m args below meth c H locs ls C z hl hr hS
  obtain ⟨hd, rfl⟩ := hd
  obtain ⟨j, hj⟩ := List.getElem?_of_mem (al_in (X := X) hx)
  exact lv_iinc C.1 C.2.1 hd hl.has (k := j) hj hy hq rfl (fun ls' hl' => k X p l e s m args below meth c H locs ls' C z (hL ▸ LR_st1 hl') hr hS)
theorem J_iadd {x y : Int32} (hd : DI M pc .iadd 1 nx) (k : J M R sh0 Z nx L (pI (x + y) :: st) sh h) : J M R sh0 Z pc L (pI y :: pI x :: st) sh h := by
  intro X p l e s m args below meth c H locs ls C z hl hr hS
  obtain ⟨hd, rfl⟩ := hd
  exact lv_iadd C.1 C.2.1 hd (k X p l e s m args below meth c H locs ls C z hl hr hS)
theorem J_isub {x y : Int32} (hd : DI M pc .isub 1 nx) (k : J M R sh0 Z nx L (pI (x - y) :: st) sh h) : J M R sh0 Z pc L (pI y :: pI x :: st) sh h := by
  intro X p l e s m args below meth c H locs ls C z hl hr hS
  obtain ⟨hd, rfl⟩ := hd
  exact lv_isub C.1 C.2.1 hd (k X p l e s m args below meth c H locs ls C z hl hr hS)
theorem J_imul {x y : Int32} (hd : DI M pc .imul 1 nx) (k : J M R sh0 Z nx L (pI (x * y) :: st) sh h) : J M R sh0 Z pc L (pI y :: pI x :: st) sh h := by
  intro X p l e s m args below meth c H locs ls C z hl hr hS
  obtain ⟨hd, rfl⟩ := hd
  exact lv_imul C.1 C.2.1 hd (k X p l e s m args below meth c H locs ls C z hl hr hS)
theorem J_iand {x y : Int32} (hd : DI M pc .iand 1 nx) (k : J M R sh0 Z nx L (pI (x &&& y) :: st) sh h) : J M R sh0 Z pc L (pI y :: pI x :: st) sh h := by
  intro X p l e s m args below meth c H locs ls C z hl hr hS
  obtain ⟨hd, rfl⟩ := hd
  exact lv_iand C.1 C.2.1 hd (k X p l e s m args below meth c H locs ls C z hl hr hS)
theorem J_ior {x y : Int32} (hd : DI M pc .ior 1 nx) (k : J M R sh0 Z nx L (pI (x ||| y) :: st) sh h) : J M R sh0 Z pc L (pI y :: pI x :: st) sh h := by
  intro X p l e s m args below meth c H locs ls C z hl hr hS
  obtain ⟨hd, rfl⟩ := hd
  exact lv_ior C.1 C.2.1 hd (k X p l e s m args below meth c H locs ls C z hl hr hS)
theorem J_ishl {x y : Int32} (hd : DI M pc .ishl 1 nx) (k : J M R sh0 Z nx L (pI (x <<< (y &&& 31)) :: st) sh h) : J M R sh0 Z pc L (pI y :: pI x :: st) sh h := by
  intro X p l e s m args below meth c H locs ls C z hl hr hS
  obtain ⟨hd, rfl⟩ := hd
  exact lv_ishl C.1 C.2.1 hd (k X p l e s m args below meth c H locs ls C z hl hr hS)
theorem J_ishr {x y : Int32} (hd : DI M pc .ishr 1 nx) (k : J M R sh0 Z nx L (pI (x >>> (y &&& 31)) :: st) sh h) : J M R sh0 Z pc L (pI y :: pI x :: st) sh h := by
  intro X p l e s m args below meth c H locs ls C z hl hr hS
  obtain ⟨hd, rfl⟩ := hd
  exact lv_ishr C.1 C.2.1 hd (k X p l e s m args below meth c H locs ls C z hl hr hS)
theorem J_iushr {x y : Int32} (hd : DI M pc .iushr 1 nx) (k : J M R sh0 Z nx L (pI ((x.toUInt32 >>> (y.toUInt32 &&& Int32.toUInt32 31)).toInt32) :: st) sh h) : J M R sh0 Z pc L (pI y :: pI x :: st) sh h := by
  intro X p l e s m args below meth c H locs ls C z hl hr hS
  obtain ⟨hd, rfl⟩ := hd
  exact lv_iushr C.1 C.2.1 hd rfl (k X p l e s m args below meth c H locs ls C z hl hr hS)
theorem J_idiv {x y : Int32} (hd : DI M pc .idiv 1 nx) (hne : ¬ y = 0) (k : J M R sh0 Z nx L (pI (x / y) :: st) sh h) : J M R sh0 Z pc L (pI y :: pI x :: st) sh h := by
  intro X p l e s m args below meth c H locs ls C z hl hr hS
  obtain ⟨hd, rfl⟩ := hd
  exact lv_idiv C.1 C.2.1 hd hne (k X p l e s m args below meth c H locs ls C z hl hr hS)
theorem J_irem {x y : Int32} (hd : DI M pc .irem 1 nx) (hne : ¬ y = 0) (k : J M R sh0 Z nx L (pI (x - x / y * y) :: st) sh h) : J M R sh0 Z pc L (pI y :: pI x :: st) sh h := by
  intro X p l e s m args below meth c H locs ls C z hl hr hS
  obtain ⟨hd, rfl⟩ := hd
  exact lv_irem C.1 C.2.1 hd hne (k X p l e s m args below meth c H locs ls C z hl hr hS)
theorem J_ineg {x : Int32} (hd : DI M pc .ineg 1 nx) (k : J M R sh0 Z nx L (pI (-x) :: st) sh h) : J M R sh0 Z pc L (pI x :: st) sh h := by
  intro X p l e s m args below meth c H locs ls C z hl hr hS
  obtain ⟨hd, rfl⟩ := hd
  exact lv_ineg C.1 C.2.1 hd (k X p l e s m args below meth c H locs ls C z hl hr hS)
theorem J_ladd {x y : Int64} (hd : DI M pc .ladd 1 nx) (k : J M R sh0 Z nx L (pL (x + y) :: st) sh h) : J M R sh0 Z pc L (pL y :: pL x :: st) sh h := by
  intro X p l e s m args below meth c H locs ls C z hl hr hS
  obtain ⟨hd, rfl⟩ := hd
  exact lv_ladd C.1 C.2.1 hd (k X p l e s m args below meth c H locs ls C z hl hr hS)
theorem J_lsub {x y : Int64} (hd : DI M pc .lsub 1 nx) (k : J M R sh0 Z nx L (pL (x - y) :: st) sh h) : J M R sh0 Z pc L (pL y :: pL x :: st) sh h := by
  intro X p l e s m args below meth c H locs ls C z hl hr hS
  obtain ⟨hd, rfl⟩ := hd
  exact lv_lsub C.1 C.2.1 hd (k X p l e s m args below meth c H locs ls C z hl hr hS)
theorem J_lmul {x y : Int64} (hd : DI M pc .lmul 1 nx) (k : J M R sh0 Z nx L (pL (x * y) :: st) sh h) : J M R sh0 Z pc L (pL y :: pL x :: st) sh h := by
  intro X p l e s m args below meth c H locs ls C z hl hr hS
  obtain ⟨hd, rfl⟩ := hd
  exact lv_lmul C.1 C.2.1 hd (k X p l e s m args below meth c H locs ls C z hl hr hS)
theorem J_ldiv {x y : Int64} (hd : DI M pc .ldiv 1 nx) (hne : ¬ y = 0) (k : J M R sh0 Z nx L (pL (x / y) :: st) sh h) : J M R sh0 Z pc L (pL y :: pL x :: st) sh h := by
  intro X p l e s m args below meth c H locs ls C z hl hr hS
  obtain ⟨hd, rfl⟩ := hd
  exact lv_ldiv C.1 C.2.1 hd hne (k X p l e s m args below meth c H locs ls C z hl hr hS)
theorem J_lrem {x y : Int64} (hd : DI M pc .lrem 1 nx) (hne : ¬ y = 0) (k : J M R sh0 Z nx L (pL (x - x / y * y) :: st) sh h) : J M R sh0 Z pc L (pL y :: pL x :: st) sh h := by
  intro X p l e s m args below meth c H locs ls C z hl hr hS
  obtain ⟨hd, rfl⟩ := hd
  exact lv_lrem C.1 C.2.1 hd hne (k X p l e s m args below meth c H locs ls C z hl hr hS)
theorem J_lcmp {x y : Int64} (hd : DI M pc .lcmp 1 nx) (k : J M R sh0 Z nx L (pI (lg_cmp x y) :: st) sh h) : J M R sh0 Z pc L (pL y :: pL x :: st) sh h := by
  intro X p l e s m args below meth c H locs ls C z hl hr hS
  obtain ⟨hd, rfl⟩ := hd
  exact W.lcmp C.1 C.2.1 hd (k X p l e s m args below meth c H locs ls C z hl hr hS)
theorem J_i2l {x : Int32} (hd : DI M pc .i2l 1 nx) (k : J M R sh0 Z nx L (pL x.toInt64 :: st) sh h) : J M R sh0 Z pc L (pI x :: st) sh h := by
  intro X p l e s m args below meth c H locs ls C z hl hr hS
  obtain ⟨hd, rfl⟩ := hd
  exact lv_i2l C.1 C.2.1 hd rfl (k X p l e s m args below meth c H locs ls C z hl hr hS)
theorem J_l2i {x : Int64} (hd : DI M pc .l2i 1 nx) (k : J M R sh0 Z nx L (pI x.toInt32 :: st) sh h) : J M R sh0 Z pc L (pL x :: st) sh h := by
  intro X p l e s m args below meth c H locs ls C z hl hr hS
  obtain ⟨hd, rfl⟩ := hd
  exact lv_l2i C.1 C.2.1 hd rfl (k X p l e s m args below meth c H locs ls C z hl hr hS)
theorem J_i2b {x : Int32} (hd : DI M pc .i2b 1 nx) (k : J M R sh0 Z nx L (pI x.toInt8.toInt32 :: st) sh h) : J M R sh0 Z pc L (pI x :: st) sh h := by
  intro X p l e s m args below meth c H locs ls C z hl hr hS
  obtain ⟨hd, rfl⟩ := hd
  exact lv_i2b C.1 C.2.1 hd rfl (k X p l e s m args below meth c H locs ls C z hl hr hS)
theorem J_i2c {x : Int32} (hd : DI M pc .i2c 1 nx) (k : J M R sh0 Z nx L (pI (x.toUInt32 % 65536).toInt32 :: st) sh h) : J M R sh0 Z pc L (pI x :: st) sh h := by
  intro X p l e s m args below meth c H locs ls C z hl hr hS
  obtain ⟨hd, rfl⟩ := hd
  exact lv_i2c C.1 C.2.1 hd rfl (k X p l e s m args below meth c H locs ls C z hl hr hS)
theorem J_dup {v : PV} (hd : DI M pc .dup 1 nx) (hv : pcat v = 1) (k : J M R sh0 Z nx L (v :: v :: st) sh h) : J M R sh0 Z pc L (v :: st) sh h := by
  intro X p l e s m args below meth c H locs ls C z hl hr hS
  obtain ⟨hd, rfl⟩ := hd
  exact lv_dup C.1 C.2.1 hd (by rw [re_cat]; exact hv) (k X p l e s m args below meth c H locs ls C z hl hr hS)
theorem J_pop {v : PV} (hd : DI M pc .pop 1 nx) (hv : pcat v = 1) (k : J M R sh0 Z nx L (st) sh h) : J M R sh0 Z pc L (v :: st) sh h := by
  intro X p l e s m args below meth c H locs ls C z hl hr hS
  obtain ⟨hd, rfl⟩ := hd
  exact lv_pop C.1 C.2.1 hd (by rw [re_cat]; exact hv) (k X p l e s m args below meth c H locs ls C z hl hr hS)
theorem J_dup2 {v w : PV} (hd : DI M pc .dup2 1 nx) (hv : pcat v = 1) (hw : pcat w = 1) (k : J M R sh0 Z nx L (v :: w :: v :: w :: st) sh h) : J M R sh0 Z pc L (v :: w :: st) sh h := by
  intro X p l e s m args below meth c H locs ls C z hl hr hS
  obtain ⟨hd, rfl⟩ := hd
  exact lv_dup2_11 C.1 C.2.1 hd (by rw [re_cat]; exact hv) (by rw [re_cat]; exact hw) (k X p l e s m args below meth c H locs ls C z hl hr hS)
theorem J_dup2L {v : PV} (hd : DI M pc .dup2 1 nx) (hv : pcat v = 2) (k : J M R sh0 Z nx L (v :: v :: st) sh h) : J M R sh0 Z pc L (v :: st) sh h := by
  intro X p l e s m args below meth c H locs ls C z hl hr hS
  obtain ⟨hd, rfl⟩ := hd
  exact lv_dup2_2 C.1 C.2.1 hd (by rw [re_cat]; exact hv) (k X p l e s m args below meth c H locs ls C z hl hr hS)
theorem J_if_eq {x : Int32} {tgt : Nat} (hd : DI M pc (.ifCond .eq ((tgt : Int) - (pc : Int))) 3 nx) (kt : x = 0 → J M R sh0 Z tgt L st sh h) (kf : ¬ x = 0 → J M R sh0 Z nx L st sh h) : J M R sh0 Z pc L (pI x :: st) sh h := by
  intro X p l e s m args below meth c H locs ls C z hl hr hS
  obtain ⟨hd, rfl⟩ := hd
  exact lv_if_eq C.1 C.2.1 hd (by omega) (fun q => kt q X p l e s m args below meth c H locs ls C z hl hr hS) (fun q => kf q X p l e s m args below meth c H locs ls C z hl hr hS)
theorem J_icmp_eq {x y : Int32} {tgt : Nat} (hd : DI M pc (.if_icmp .eq ((tgt : Int) - (pc : Int))) 3 nx) (kt : x = y → J M R sh0 Z tgt L st sh h) (kf : ¬ x = y → J M R sh0 Z nx L st sh h) : J M R sh0 Z pc L (pI y :: pI x :: st) sh h := by
  intro X p l e s m args below meth c H locs ls C z hl hr hS
  obtain ⟨hd, rfl⟩ := hd
  exact lv_icmp_eq C.1 C.2.1 hd (by omega) (fun q => kt q X p l e s m args below meth c H locs ls C z hl hr hS) (fun q => kf q X p l e s m args below meth c H locs ls C z hl hr hS)
theorem J_if_ne {x : Int32} {tgt : Nat} (hd : DI M pc (.ifCond .ne ((tgt : Int) - (pc : Int))) 3 nx) (kt : ¬ x = 0 → J M R sh0 Z tgt L st sh h) (kf : x = 0 → J M R sh0 Z nx L st sh h) : J M R sh0 Z pc L (pI x :: st) sh h := by
  intro X p l e s m args below meth c H locs ls C z hl hr hS
  obtain ⟨hd, rfl⟩ := hd
  exact lv_if_ne C.1 C.2.1 hd (by omega) (fun q => kt q X p l e s m args below meth c H locs ls C z hl hr hS) (fun q => kf q X p l e s m args below meth c H locs ls C z hl hr hS)
theorem J_icmp_ne {x y : Int32} {tgt : Nat} (hd : DI M pc (.if_icmp .ne ((tgt : Int) - (pc : Int))) 3 nx) (kt : ¬ x = y → J M R sh0 Z tgt L st sh h) (kf : x = y → J M R sh0 Z nx L st sh h) : J M R sh0 Z pc L (pI y :: pI x :: st) sh h := by
  intro X p l e s m args below meth c H locs ls C z hl hr hS
  obtain ⟨hd, rfl⟩ := hd
  exact lv_icmp_ne C.1 C.2.1 hd (by omega) (fun q => kt q X p l e s m args below meth c H locs ls C z hl hr hS) (fun q => kf q X p l e s m args below meth c H locs ls C z hl hr hS)
theorem J_if_lt {x : Int32} {tgt : Nat} (hd : DI M pc (.ifCond .lt ((tgt : Int) - (pc : Int))) 3 nx) (kt : x < 0 → J M R sh0 Z tgt L st sh h) (kf : ¬ x < 0 → J M R sh0 Z nx L st sh h) : J M R sh0 Z pc L (pI x :: st) sh h := by
  intro X p l e s m args below meth c H locs ls C z hl hr hS
  obtain ⟨hd, rfl⟩ := hd
  exact lv_if_lt C.1 C.2.1 hd (by omega) (fun q => kt q X p l e s m args below meth c H locs ls C z hl hr hS) (fun q => kf q X p l e s m args below meth c H locs ls C z hl hr hS)
theorem J_icmp_lt {x y : Int32} {tgt : Nat} (hd : DI M pc (.if_icmp .lt ((tgt : Int) - (pc : Int))) 3 nx) (kt : x < y → J M R sh0 Z tgt L st sh h) (kf : ¬ x < y → J M R sh0 Z nx L st sh h) : J M R sh0 Z pc L (pI y :: pI x :: st) sh h := by
  intro X p l e s m args below meth c H locs ls C z hl hr hS
  obtain ⟨hd, rfl⟩ := hd
  exact lv_icmp_lt C.1 C.2.1 hd (by omega) (fun q => kt q X p l e s m args below meth c H locs ls C z hl hr hS) (fun q => kf q X p l e s m args below meth c H locs ls C z hl hr hS)
theorem J_if_ge {x : Int32} {tgt : Nat} (hd : DI M pc (.ifCond .ge ((tgt : Int) - (pc : Int))) 3 nx) (kt : 0 ≤ x → J M R sh0 Z tgt L st sh h) (kf : ¬ 0 ≤ x → J M R sh0 Z nx L st sh h) : J M R sh0 Z pc L (pI x :: st) sh h := by
  intro X p l e s m args below meth c H locs ls C z hl hr hS
  obtain ⟨hd, rfl⟩ := hd
  exact lv_if_ge C.1 C.2.1 hd (by omega) (fun q => kt q X p l e s m args below meth c H locs ls C z hl hr hS) (fun q => kf q X p l e s m args below meth c H locs ls C z hl hr hS)
theorem J_icmp_ge {x y : Int32} {tgt : Nat} (hd : DI M pc (.if_icmp .ge ((tgt : Int) - (pc : Int))) 3 nx) (kt : y ≤ x → J M R sh0 Z tgt L st sh h) (kf : ¬ y ≤ x → J M R sh0 Z nx L st sh h) : J M R sh0 Z pc L (pI y :: pI x :: st) sh h := by
  intro X p l e s m args below meth c H locs ls C z hl hr hS
  obtain ⟨hd, rfl⟩ := hd
  exact lv_icmp_ge C.1 C.2.1 hd (by omega) (fun q => kt q X p l e s m args below meth c H locs ls C z hl hr hS) (fun q => kf q X p l e s m args below meth c H locs ls C z hl hr hS)
theorem J_if_gt {x : Int32} {tgt : Nat} (hd : DI M pc (.ifCond .gt ((tgt : Int) - (pc : Int))) 3 nx) (kt : 0 < x → J M R sh0 Z tgt L st sh h) (kf : ¬ 0 < x → J M R sh0 Z nx L st sh h) : J M R sh0 Z pc L (pI x :: st) sh h := by
  intro X p l e s m args below meth c H locs ls C z hl hr hS
  obtain ⟨hd, rfl⟩ := hd
  exact lv_if_gt C.1 C.2.1 hd (by omega) (fun q => kt q X p l e s m args below meth c H locs ls C z hl hr hS) (fun q => kf q X p l e s m args below meth c H locs ls C z hl hr hS)
theorem J_icmp_gt {x y : Int32} {tgt : Nat} (hd : DI M pc (.if_icmp .gt ((tgt : Int) - (pc : Int))) 3 nx) (kt : y < x → J M R sh0 Z tgt L st sh h) (kf : ¬ y < x → J M R sh0 Z nx L st sh h) : J M R sh0 Z pc L (pI y :: pI x :: st) sh h := by
  intro X p l e s m args below meth c H locs ls C z hl hr hS
  obtain ⟨hd, rfl⟩ := hd
  exact lv_icmp_gt C.1 C.2.1 hd (by omega) (fun q => kt q X p l e s m args below meth c H locs ls C z hl hr hS) (fun q => kf q X p l e s m args below meth c H locs ls C z hl hr hS)
theorem J_if_le {x : Int32} {tgt : Nat} (hd : DI M pc (.ifCond .le ((tgt : Int) - (pc : Int))) 3 nx) (kt : x ≤ 0 → J M R sh0 Z tgt L st sh h) (kf : ¬ x ≤ 0 → J M R sh0 Z nx L st sh h) : J M R sh0 Z pc L (pI x :: st) sh h := by
  intro X p l e s m args below meth c H locs ls C z hl hr hS
  obtain ⟨hd, rfl⟩ := hd
  exact lv_if_le C.1 C.2.1 hd (by omega) (fun q => kt q X p l e s m args below meth c H locs ls C z hl hr hS) (fun q => kf q X p l e s m args below meth c H locs ls C z hl hr hS)
theorem J_icmp_le {x y : Int32} {tgt : Nat} (hd : DI M pc (.if_icmp .le ((tgt : Int) - (pc : Int))) 3 nx) (kt : x ≤ y → J M R sh0 Z tgt L st sh h) (kf : ¬ x ≤ y → J M R sh0 Z nx L st sh h) : J M R sh0 Z pc L (pI y :: pI x :: st) sh h := by
  intro X p l e s m args below meth c H locs ls C z hl hr hS
  obtain ⟨hd, rfl⟩ := hd
  exact lv_icmp_le C.1 C.2.1 hd (by omega) (fun q => kt q X p l e s m args below meth c H locs ls C z hl hr hS) (fun q => kf q X p l e s m args below meth c H locs ls C z hl hr hS)
theorem J_goto {tgt : Nat} (hd : DI M pc (.goto ((tgt : Int) - (pc : Int))) 3 nx) (k : J M R sh0 Z tgt L st sh h) : J M R sh0 Z pc L st sh h := by
  intro X p l e s m args below meth c H locs ls C z hl hr hS
  exact lv_goto C.1 C.2.1 hd.1 (by omega) (k X p l e s m args below meth c H locs ls C z hl hr hS)
theorem J_tabOut {dflt lo hi : Int} {offs : Array Int} {len tgt : Nat} {x : Int32} (hd : DI M pc (.tableswitch dflt lo hi offs) len nx) (hx : x.toInt < lo ∨ hi < x.toInt) (ht : (pc : Int) + dflt = (tgt : Int)) (k : J M R sh0 Z tgt L st sh h) : J M R sh0 Z pc L (pI x :: st) sh h := by
  intro X p l e s m args below meth c H locs ls C z hl hr hS
  exact lv_tableOut C.1 C.2.1 hd.1 hx ht (k X p l e s m args below meth c H locs ls C z hl hr hS)
theorem J_tabIn {dflt lo hi : Int} {offs : Array Int} {len tgt : Nat} {x : Int32} {off : Int} (i : Int) (hd : DI M pc (.tableswitch dflt lo hi offs) len nx) (hx : x.toInt = i) (h1 : ¬ i < lo) (h2 : ¬ hi < i) (ho : offs[(i - lo).toNat]? = some off) (ht : (pc : Int) + off = (tgt : Int)) (k : J M R sh0 Z tgt L st sh h) : J M R sh0 Z pc L (pI x :: st) sh h := by
  intro X p l e s m args below meth c H locs ls C z hl hr hS
  subst hx
  exact lv_tableIn C.1 C.2.1 hd.1 h1 h2 ho ht (k X p l e s m args below meth c H locs ls C z hl hr hS)
theorem J_look {dflt : Int} {ps : Array (Int × Int)} {len tgt : Nat} {x : Int32} {off : Int} (hd : DI M pc (.lookupswitch dflt ps) len nx) (hp : (ps.toList.zip (ps.toList.drop 1)).all (fun (a, next) => a.1 < next.1) = true) (ho : Op.lookupswitch.offset ps.toList dflt x.toInt = off) (ht : (pc : Int) + off = (tgt : Int)) (k : J M R sh0 Z tgt L st sh h) : J M R sh0 Z pc L (pI x :: st) sh h := by
  intro X p l e s m args below meth c H locs ls C z hl hr hS
  exact lv_lookup C.1 C.2.1 hd.1 hp ho ht (k X p l e s m args below meth c H locs ls C z hl hr hS)
theorem J_nmI {x : Int32} {L : List (Option PV)} (k : ∀ y : Int32, y = x → J M R sh0 Z pc L (pI y :: st) sh h) : J M R sh0 Z pc L (pI x :: st) sh h := k x rfl
theorem J_nmL {x : Int64} {L : List (Option PV)} (k : ∀ y : Int64, y = x → J M R sh0 Z pc L (pL y :: st) sh h) : J M R sh0 Z pc L (pL x :: st) sh h := k x rfl
theorem J_st {st' : List PV} (e : st = st') (k : J M R sh0 Z pc L st' sh h) : J M R sh0 Z pc L st sh h := e ▸ k
theorem J_L {L' : List (Option PV)} (e : L = L') (k : J M R sh0 Z pc L' st sh h) : J M R sh0 Z pc L st sh h := e ▸ k
theorem J_h {h' : PH} (e : h = h') (k : J M R sh0 Z pc L st sh h') : J M R sh0 Z pc L st sh h := e ▸ k
end JR
