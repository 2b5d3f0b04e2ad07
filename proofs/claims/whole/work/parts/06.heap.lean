section JH
variable {M : MD} {R : Room} {sh0 : SH} {Z : ZT} {pc nx : Nat} {L : List (Option PV)} {st : List PV} {sh : SH} {h : PH}
/-- a field's link: the pool's entry idx of class own is field k of class ci -/
def FK (own : String) (idx ci k : Nat) : Prop := Cond.fieldLink own idx (clT ci k).1 (clT ci k).2.1 (clT ci k).2.2.1 ∈ lw_g ∧ k < clN ci ∧ ci < 11
theorem fld_at {base ci k : Nat} {h : PH} {c : Nat} (hk : k < clN ci) : ((List.range (clN ci)).map (fun k => fvl base (clTy ci k) h c k))[k]? = some (fvl base (clTy ci k) h c k) := by
  rw [List.getElem?_map, List.getElem?_range hk]
  rfl
theorem J_getV {i ci k c : Nat} {v : PV} (hd : DI M pc (.getfield i) 3 nx) (hf : FK (mown M) i ci k) (hc : sh[c]? = some (.inl ci)) (hv : ∀ X : Cx, fvl X.1 (clTy ci k) h c k = re X v) (kk : J M R sh0 Z nx L (v :: st) sh h) : J M R sh0 Z pc L (pR (some c) :: st) sh h := by
  intro X p l e s m args below meth cd H locs ls C z hl hr hS
  obtain ⟨hd, rfl⟩ := hd
  obtain ⟨hf1, hf2, hf3⟩ := hf
  exact va_get (D := X.2.2.1) (cl := vwCl) (ws := toW X sh h) (v := re X v) (C := clR ci) (T := clT ci) (N := clN ci) C.1 C.2.1 C.2.2.2.2.2.1 (cl_in hf3) C.2.2.2.2.1 C.2.2.2.2.2.2.2.1 hr c (toW_at hc) (vwCl_at hf3) k hf2 (C.2.2.2.2.2.1 _ hf1) (fun _ q => q) (by rw [fld_at hf2, hv X]) hd (kk X p l e s m args below meth cd H locs ls C z hl hr hS)
theorem J_getI {i ci k c : Nat} (hd : DI M pc (.getfield i) 3 nx) (hf : FK (mown M) i ci k) (hc : sh[c]? = some (.inl ci)) (hv : ∀ X : Cx, fvl X.1 (clTy ci k) h c k = .int (h.1 c k)) (kk : J M R sh0 Z nx L (pI (h.1 c k) :: st) sh h) : J M R sh0 Z pc L (pR (some c) :: st) sh h := J_getV (v := pI (h.1 c k)) hd hf hc hv kk
theorem J_getL {i ci k c : Nat} (hd : DI M pc (.getfield i) 3 nx) (hf : FK (mown M) i ci k) (hc : sh[c]? = some (.inl ci)) (hv : ∀ X : Cx, fvl X.1 (clTy ci k) h c k = .long (h.2.1 c k)) (kk : J M R sh0 Z nx L (pL (h.2.1 c k) :: st) sh h) : J M R sh0 Z pc L (pR (some c) :: st) sh h := J_getV (v := pL (h.2.1 c k)) hd hf hc hv kk
theorem J_getR {i ci k c : Nat} {r : Option Nat} (hd : DI M pc (.getfield i) 3 nx) (hf : FK (mown M) i ci k) (hc : sh[c]? = some (.inl ci)) (hv : ∀ X : Cx, fvl X.1 (clTy ci k) h c k = va_rf ((h.2.2 c k).map (fun q => X.1 + q))) (he : h.2.2 c k = r) (kk : J M R sh0 Z nx L (pR r :: st) sh h) : J M R sh0 Z pc L (pR (some c) :: st) sh h := J_getV hd hf hc (fun X => by rw [hv X, he]; rfl) kk
theorem fset {base ci k c : Nat} {h h' : PH} {v : Value} (hk : k < clN ci) (h1 : fvl base (clTy ci k) h' c k = v) (h2 : ∀ j, j ≠ k → fvl base (clTy ci j) h' c j = fvl base (clTy ci j) h c j) : ((List.range (clN ci)).map (fun k => fvl base (clTy ci k) h c k)).set k v = (List.range (clN ci)).map (fun k => fvl base (clTy ci k) h' c k) := by
  apply List.ext_getElem?
  intro j
  by_cases e : k = j
  · subst e
    rw [List.getElem?_set_self (by simp; exact hk), fld_at hk, h1]
  · rw [List.getElem?_set_ne e, List.getElem?_map, List.getElem?_map]
    by_cases hj : j < clN ci
    · rw [List.getElem?_range hj]
      show some (fvl base (clTy ci j) h c j) = some (fvl base (clTy ci j) h' c j)
      rw [h2 j (fun q => e q.symm)]
    · rw [List.getElem?_eq_none (by simp; omega)]
      rfl
theorem fvl_sI {base : Nat} {ty : FieldType} {h : PH} {c k j : Nat} {x : Int32} (hj : j ≠ k) : fvl base ty (sI h c k x) c j = fvl base ty h c j := by
  cases ty <;> simp [fvl, sI, wI, up2_self, upd, hj]
theorem fvl_sL {base : Nat} {ty : FieldType} {h : PH} {c k j : Nat} {x : Int64} (hj : j ≠ k) : fvl base ty (sL h c k x) c j = fvl base ty h c j := by
  cases ty <;> simp [fvl, sL, wL, up2_self, vp_updL, hj]
theorem fvl_sR {base : Nat} {ty : FieldType} {h : PH} {c k j : Nat} {x : Option Nat} (hj : j ≠ k) : fvl base ty (sR h c k x) c j = fvl base ty h c j := by
  cases ty <;> simp [fvl, sR, wR, up2_self, va_up, hj]
theorem Rep.set {X : Cx} {H H1 : Heap} {locs : List Loc} {H0 : Heap} {c : Nat} {s : Nat ⊕ (Nat × Nat)} {h' : PH} (hr : Rep X sh h H) (hc : sh[c]? = some s) (hP : va_P X.2.2.1 vwCl ((toW X sh h).set c (X.1 + c, toE X s h' c)) H1) (he : ∀ a s', a ≠ c → sh[a]? = some s' → toE X s' h' a = toE X s' h a) : Rep X sh h' H1 := by
  rw [toW_congr c hc he] at hP
  exact hP
theorem J_putV {i ci k c : Nat} {v : PV} {h' : PH} (hd : DI M pc (.putfield i) 3 nx) (hf : FK (mown M) i ci k) (hc : sh[c]? = some (.inl ci)) (hfin : (clT ci k).2.2.2 = false) (hn : ∀ X : Cx, narrow (clTy ci k) (re X v) = re X v) (hft : ∀ X : Cx, fits (clTy ci k) (re X v) = true) (h1 : ∀ X : Cx, fvl X.1 (clTy ci k) h' c k = re X v) (h2 : ∀ (X : Cx) (j : Nat), j ≠ k → fvl X.1 (clTy ci j) h' c j = fvl X.1 (clTy ci j) h c j) (h3 : ∀ (X : Cx) (s' : Nat ⊕ (Nat × Nat)) (a : Nat), a ≠ c → toE X s' h' a = toE X s' h a) (kk : J M R sh0 Z nx L st sh h') : J M R sh0 Z pc L (v :: pR (some c) :: st) sh h := by
  intro X p l e s m args below meth cd H locs ls C z hl hr hS
  obtain ⟨hd, rfl⟩ := hd
  obtain ⟨hf1, hf2, hf3⟩ := hf
  have hK := C.2.2.2.2.2.2.2.1
  refine va_put (D := X.2.2.1) (cl := vwCl) (ws := toW X sh h) (A := AA X) (C := clR ci) (T := clT ci) (N := clN ci) C.1 C.2.1 C.2.2.2.2.2.1 (cl_in hf3) (clTy ci) (cl_ty hf3) (cl_nm hf3) C.2.2.2.2.1 hK hr (toW_D X sh h) hS c (toW_at hc) (vwCl_at hf3) k hf2 (C.2.2.2.2.2.1 _ hf1) (fun _ q => q) hfin (cl_ty hf3 k hf2) (hn X) (hft X) (by simp; exact hf2) hd (fun H1 locs1 hP hD hS1 => ?_)
  rw [fset hf2 (h1 X) (h2 X)] at hP
  exact kk X p l e s m args below meth cd H1 locs1 ls C z hl (Rep.set (H0 := s.heap) (locs := locs1) hr hc hP (fun a s' ha _ => h3 X s' a ha)) hS1
theorem J_putFV {i ci k c : Nat} {v : PV} {h' : PH} (hd : DI M pc (.putfield i) 3 nx) (hf : FK (mown M) i ci k) (hc : sh[c]? = some (.inl ci)) (hfin : (clT ci k).2.2.2 = true) (hinit : (my M).name = "<init>") (hdecl : (clT ci k).1 = mown M) (hn : ∀ X : Cx, narrow (clTy ci k) (re X v) = re X v) (hft : ∀ X : Cx, fits (clTy ci k) (re X v) = true) (h1 : ∀ X : Cx, fvl X.1 (clTy ci k) h' c k = re X v) (h2 : ∀ (X : Cx) (j : Nat), j ≠ k → fvl X.1 (clTy ci j) h' c j = fvl X.1 (clTy ci j) h c j) (h3 : ∀ (X : Cx) (s' : Nat ⊕ (Nat × Nat)) (a : Nat), a ≠ c → toE X s' h' a = toE X s' h a) (kk : J M R sh0 Z nx L st sh h') : J M R sh0 Z pc L (v :: pR (some c) :: st) sh h := by
  intro X p l e s m args below meth cd H locs ls C z hl hr hS
  obtain ⟨hd, rfl⟩ := hd
  obtain ⟨hf1, hf2, hf3⟩ := hf
  have hK := C.2.2.2.2.2.2.2.1
  refine va_putF (D := X.2.2.1) (cl := vwCl) (ws := toW X sh h) (A := AA X) (C := clR ci) (T := clT ci) (N := clN ci) C.1 C.2.1 C.2.2.2.2.2.1 (cl_in hf3) (clTy ci) (cl_ty hf3) (cl_nm hf3) C.2.2.2.2.1 hK hr (toW_D X sh h) hS c (toW_at hc) (vwCl_at hf3) k hf2 (C.2.2.2.2.2.1 _ hf1) (fun _ q => q) hfin (C.2.2.2.2.2.2.2.2.2.2.1.trans hinit) hdecl (cl_ty hf3 k hf2) (hn X) (hft X) (by simp; exact hf2) hd (fun H1 locs1 hP hD hS1 => ?_)
  rw [fset hf2 (h1 X) (h2 X)] at hP
  exact kk X p l e s m args below meth cd H1 locs1 ls C z hl (Rep.set (H0 := s.heap) (locs := locs1) hr hc hP (fun a s' ha _ => h3 X s' a ha)) hS1
theorem J_putI {i ci k c : Nat} {x : Int32} (hd : DI M pc (.putfield i) 3 nx) (hf : FK (mown M) i ci k) (hc : sh[c]? = some (.inl ci)) (hfin : (clT ci k).2.2.2 = false) (hn : narrow (clTy ci k) (.int x) = .int x) (hft : fits (clTy ci k) (.int x) = true) (hv : ∀ (X : Cx) (g : PH), fvl X.1 (clTy ci k) g c k = .int (g.1 c k)) (kk : J M R sh0 Z nx L st sh (sI h c k x)) : J M R sh0 Z pc L (pI x :: pR (some c) :: st) sh h :=
  J_putV hd hf hc hfin (fun _ => hn) (fun _ => hft) (fun X => by rw [hv]; show Value.int (up2 h.1 c (upd (h.1 c) k x) c k) = .int x; rw [up2_self]; simp [upd]) (fun X j hj => fvl_sI hj) (fun X s' a ha => toE_wI ha) kk
theorem J_putL {i ci k c : Nat} {x : Int64} (hd : DI M pc (.putfield i) 3 nx) (hf : FK (mown M) i ci k) (hc : sh[c]? = some (.inl ci)) (hfin : (clT ci k).2.2.2 = false) (hty : clTy ci k = .long) (kk : J M R sh0 Z nx L st sh (sL h c k x)) : J M R sh0 Z pc L (pL x :: pR (some c) :: st) sh h :=
  J_putV hd hf hc hfin (fun _ => by rw [hty]; rfl) (fun _ => by rw [hty]; rfl) (fun X => by rw [hty]; show Value.long (up2 h.2.1 c (vp_updL (h.2.1 c) k x) c k) = .long x; rw [up2_self]; simp [vp_updL]) (fun X j hj => fvl_sL hj) (fun X s' a ha => toE_wL ha) kk
theorem nar_ref {ty : FieldType} (hty : (∃ n, ty = .object n) ∨ ∃ t, ty = .array t) (a : Nat) : narrow ty (.ref a) = .ref a ∧ fits ty (.ref a) = true := by
  rcases hty with ⟨n, rfl⟩ | ⟨t, rfl⟩ <;> exact ⟨rfl, rfl⟩
theorem fvl_ref {base : Nat} {ty : FieldType} (hty : (∃ n, ty = .object n) ∨ ∃ t, ty = .array t) (h : PH) (c k : Nat) : fvl base ty h c k = va_rf ((h.2.2 c k).map (fun q => base + q)) := by
  rcases hty with ⟨n, rfl⟩ | ⟨t, rfl⟩ <;> rfl
theorem J_putR {i ci k c r : Nat} (hd : DI M pc (.putfield i) 3 nx) (hf : FK (mown M) i ci k) (hc : sh[c]? = some (.inl ci)) (hfin : (clT ci k).2.2.2 = false) (hty : (∃ n, clTy ci k = .object n) ∨ ∃ t, clTy ci k = .array t) (kk : J M R sh0 Z nx L st sh (sR h c k (some r))) : J M R sh0 Z pc L (pR (some r) :: pR (some c) :: st) sh h :=
  J_putV hd hf hc hfin (fun X => (nar_ref hty (X.1 + r)).1) (fun X => (nar_ref hty (X.1 + r)).2) (fun X => by rw [fvl_ref hty]; show va_rf ((up2 h.2.2 c (va_up (h.2.2 c) k (some r)) c k).map _) = _; rw [up2_self, va_up_self]; rfl) (fun X j hj => fvl_sR hj) (fun X s' a ha => toE_wR ha) kk
theorem J_putFI {i ci k c : Nat} {x : Int32} (hd : DI M pc (.putfield i) 3 nx) (hf : FK (mown M) i ci k) (hc : sh[c]? = some (.inl ci)) (hfin : (clT ci k).2.2.2 = true) (hinit : (my M).name = "<init>") (hdecl : (clT ci k).1 = mown M) (hn : narrow (clTy ci k) (.int x) = .int x) (hft : fits (clTy ci k) (.int x) = true) (hv : ∀ (X : Cx) (g : PH), fvl X.1 (clTy ci k) g c k = .int (g.1 c k)) (kk : J M R sh0 Z nx L st sh (sI h c k x)) : J M R sh0 Z pc L (pI x :: pR (some c) :: st) sh h :=
  J_putFV hd hf hc hfin hinit hdecl (fun _ => hn) (fun _ => hft) (fun X => by rw [hv]; show Value.int (up2 h.1 c (upd (h.1 c) k x) c k) = .int x; rw [up2_self]; simp [upd]) (fun X j hj => fvl_sI hj) (fun X s' a ha => toE_wI ha) kk
theorem J_putFR {i ci k c r : Nat} (hd : DI M pc (.putfield i) 3 nx) (hf : FK (mown M) i ci k) (hc : sh[c]? = some (.inl ci)) (hfin : (clT ci k).2.2.2 = true) (hinit : (my M).name = "<init>") (hdecl : (clT ci k).1 = mown M) (hty : (∃ n, clTy ci k = .object n) ∨ ∃ t, clTy ci k = .array t) (kk : J M R sh0 Z nx L st sh (sR h c k (some r))) : J M R sh0 Z pc L (pR (some r) :: pR (some c) :: st) sh h :=
  J_putFV hd hf hc hfin hinit hdecl (fun X => (nar_ref hty (X.1 + r)).1) (fun X => (nar_ref hty (X.1 + r)).2) (fun X => by rw [fvl_ref hty]; show va_rf ((up2 h.2.2 c (va_up (h.2.2 c) k (some r)) c k).map _) = _; rw [up2_self, va_up_self]; rfl) (fun X j hj => fvl_sR hj) (fun X s' a ha => toE_wR ha) kk
theorem J_iald {c n : Nat} {i : Int32} (hd : DI M pc .iaload 1 nx) (hc : sh[c]? = some (.inr (0, n))) (hi : vp_in i n) (kk : J M R sh0 Z nx L (pI (h.1 c i.toNatClampNeg) :: st) sh h) : J M R sh0 Z pc L (pI i :: pR (some c) :: st) sh h := by
  intro X p l e s m args below meth cd H locs ls C z hl hr hS
  obtain ⟨hd, rfl⟩ := hd
  exact va_iald (D := X.2.2.1) (cl := vwCl) (ws := toW X sh h) C.1 C.2.1 C.2.2.2.2.2.2.2.1 hr c 0 (toW_at hc) (TYs_at X (by decide)) hi hd (kk X p l e s m args below meth cd H locs ls C z hl hr hS)
theorem J_bald {c n : Nat} {i : Int32} (hd : DI M pc .baload 1 nx) (hc : sh[c]? = some (.inr (1, n))) (hi : vp_in i n) (kk : J M R sh0 Z nx L (pI (h.1 c i.toNatClampNeg) :: st) sh h) : J M R sh0 Z pc L (pI i :: pR (some c) :: st) sh h := by
  intro X p l e s m args below meth cd H locs ls C z hl hr hS
  obtain ⟨hd, rfl⟩ := hd
  exact va_bald (D := X.2.2.1) (cl := vwCl) (ws := toW X sh h) C.1 C.2.1 C.2.2.2.2.2.2.2.1 hr c 1 (toW_at hc) (TYs_at X (by decide)) hi hd (kk X p l e s m args below meth cd H locs ls C z hl hr hS)
theorem J_zald {c n : Nat} {i : Int32} (hd : DI M pc .baload 1 nx) (hc : sh[c]? = some (.inr (2, n))) (hi : vp_in i n) (kk : J M R sh0 Z nx L (pI (h.1 c i.toNatClampNeg) :: st) sh h) : J M R sh0 Z pc L (pI i :: pR (some c) :: st) sh h := by
  intro X p l e s m args below meth cd H locs ls C z hl hr hS
  obtain ⟨hd, rfl⟩ := hd
  exact va_zald (D := X.2.2.1) (cl := vwCl) (ws := toW X sh h) C.1 C.2.1 C.2.2.2.2.2.2.2.1 hr c 2 (toW_at hc) (TYs_at X (by decide)) hi hd (kk X p l e s m args below meth cd H locs ls C z hl hr hS)
theorem J_lald {c n : Nat} {i : Int32} (hd : DI M pc .laload 1 nx) (hc : sh[c]? = some (.inr (3, n))) (hi : vp_in i n) (kk : J M R sh0 Z nx L (pL (h.2.1 c i.toNatClampNeg) :: st) sh h) : J M R sh0 Z pc L (pI i :: pR (some c) :: st) sh h := by
  intro X p l e s m args below meth cd H locs ls C z hl hr hS
  obtain ⟨hd, rfl⟩ := hd
  exact va_lald (D := X.2.2.1) (cl := vwCl) (ws := toW X sh h) C.1 C.2.1 C.2.2.2.2.2.2.2.1 hr c 3 (toW_at hc) (TYs_at X (by decide)) hi hd (kk X p l e s m args below meth cd H locs ls C z hl hr hS)
theorem J_iast {c n : Nat} {i : Int32} {x : Int32} (hd : DI M pc .iastore 1 nx) (hc : sh[c]? = some (.inr (0, n))) (hi : vp_in i n) (kk : J M R sh0 Z nx L st sh (sI h c i.toNatClampNeg x)) : J M R sh0 Z pc L (pI x :: pI i :: pR (some c) :: st) sh h := by
  intro X p l e s m args below meth cd H locs ls C z hl hr hS
  obtain ⟨hd, rfl⟩ := hd
  refine va_iast (D := X.2.2.1) (cl := vwCl) (ws := toW X sh h) C.1 C.2.1 C.2.2.2.2.2.2.2.1 hr (toW_D X sh h) hS c 0 (toW_at hc) (TYs_at X (by decide)) hi hd (fun H1 locs1 hP hD hS1 => ?_)
  have e2 : toE X (.inr (0, n)) (sI h c i.toNatClampNeg x) c = .inl (X.2.2.2 0, n, arE X.1 0 (sI h c i.toNatClampNeg x) c) := rfl
  refine kk X p l e s m args below meth cd H1 locs1 ls C z hl (Rep.set (H0 := s.heap) (locs := locs1) hr hc (s := .inr (0, n)) ?_ (fun a s' ha _ => toE_wI ha)) hS1
  rw [e2]
  simp only [arE, sI, wI, up2_self]
  exact hP
theorem J_bast {c n : Nat} {i : Int32} {x : Int32} (hd : DI M pc .bastore 1 nx) (hc : sh[c]? = some (.inr (1, n))) (hi : vp_in i n) (kk : J M R sh0 Z nx L st sh (sI h c i.toNatClampNeg (vp_nar .byte x))) : J M R sh0 Z pc L (pI x :: pI i :: pR (some c) :: st) sh h := by
  intro X p l e s m args below meth cd H locs ls C z hl hr hS
  obtain ⟨hd, rfl⟩ := hd
  refine va_bast (D := X.2.2.1) (cl := vwCl) (ws := toW X sh h) C.1 C.2.1 C.2.2.2.2.2.2.2.1 hr (toW_D X sh h) hS c 1 (toW_at hc) (TYs_at X (by decide)) hi hd (fun H1 locs1 hP hD hS1 => ?_)
  have e2 : toE X (.inr (1, n)) (sI h c i.toNatClampNeg (vp_nar .byte x)) c = .inl (X.2.2.2 1, n, arE X.1 1 (sI h c i.toNatClampNeg (vp_nar .byte x)) c) := rfl
  refine kk X p l e s m args below meth cd H1 locs1 ls C z hl (Rep.set (H0 := s.heap) (locs := locs1) hr hc (s := .inr (1, n)) ?_ (fun a s' ha _ => toE_wI ha)) hS1
  rw [e2]
  simp only [arE, sI, wI, up2_self]
  exact hP
theorem J_zast {c n : Nat} {i : Int32} {x : Int32} (hd : DI M pc .bastore 1 nx) (hc : sh[c]? = some (.inr (2, n))) (hi : vp_in i n) (kk : J M R sh0 Z nx L st sh (sI h c i.toNatClampNeg (vp_nar .boolean x))) : J M R sh0 Z pc L (pI x :: pI i :: pR (some c) :: st) sh h := by
  intro X p l e s m args below meth cd H locs ls C z hl hr hS
  obtain ⟨hd, rfl⟩ := hd
  refine va_zast (D := X.2.2.1) (cl := vwCl) (ws := toW X sh h) C.1 C.2.1 C.2.2.2.2.2.2.2.1 hr (toW_D X sh h) hS c 2 (toW_at hc) (TYs_at X (by decide)) hi hd (fun H1 locs1 hP hD hS1 => ?_)
  have e2 : toE X (.inr (2, n)) (sI h c i.toNatClampNeg (vp_nar .boolean x)) c = .inl (X.2.2.2 2, n, arE X.1 2 (sI h c i.toNatClampNeg (vp_nar .boolean x)) c) := rfl
  refine kk X p l e s m args below meth cd H1 locs1 ls C z hl (Rep.set (H0 := s.heap) (locs := locs1) hr hc (s := .inr (2, n)) ?_ (fun a s' ha _ => toE_wI ha)) hS1
  rw [e2]
  simp only [arE, sI, wI, up2_self]
  exact hP
theorem J_last {c n : Nat} {i : Int32} {x : Int64} (hd : DI M pc .lastore 1 nx) (hc : sh[c]? = some (.inr (3, n))) (hi : vp_in i n) (kk : J M R sh0 Z nx L st sh (sL h c i.toNatClampNeg x)) : J M R sh0 Z pc L (pL x :: pI i :: pR (some c) :: st) sh h := by
  intro X p l e s m args below meth cd H locs ls C z hl hr hS
  obtain ⟨hd, rfl⟩ := hd
  refine va_last (D := X.2.2.1) (cl := vwCl) (ws := toW X sh h) C.1 C.2.1 C.2.2.2.2.2.2.2.1 hr (toW_D X sh h) hS c 3 (toW_at hc) (TYs_at X (by decide)) hi hd (fun H1 locs1 hP hD hS1 => ?_)
  have e2 : toE X (.inr (3, n)) (sL h c i.toNatClampNeg x) c = .inl (X.2.2.2 3, n, arE X.1 3 (sL h c i.toNatClampNeg x) c) := rfl
  refine kk X p l e s m args below meth cd H1 locs1 ls C z hl (Rep.set (H0 := s.heap) (locs := locs1) hr hc (s := .inr (3, n)) ?_ (fun a s' ha _ => toE_wL ha)) hS1
  rw [e2]
  simp only [arE, sL, wL, up2_self]
  exact hP
theorem J_aald4 {c n : Nat} {i : Int32} {r : Option Nat} (hd : DI M pc .aaload 1 nx) (hc : sh[c]? = some (.inr (4, n))) (hi : vp_in i n) (he : h.2.2 c i.toNatClampNeg = r) (kk : J M R sh0 Z nx L (pR r :: st) sh h) : J M R sh0 Z pc L (pI i :: pR (some c) :: st) sh h := by
  intro X p l e s m args below meth cd H locs ls C z hl hr hS
  obtain ⟨hd, rfl⟩ := hd
  subst he
  exact va_aldq (D := X.2.2.1) (cl := vwCl) (ws := toW X sh h) C.1 C.2.1 C.2.2.2.2.2.2.2.1 hr c 4 (toW_at hc) (TYs_at X (by decide)) hi hd (kk X p l e s m args below meth cd H locs ls C z hl hr hS)
theorem J_aald5 {c n : Nat} {i : Int32} {r : Option Nat} (hd : DI M pc .aaload 1 nx) (hc : sh[c]? = some (.inr (5, n))) (hi : vp_in i n) (he : h.2.2 c i.toNatClampNeg = r) (kk : J M R sh0 Z nx L (pR r :: st) sh h) : J M R sh0 Z pc L (pI i :: pR (some c) :: st) sh h := by
  intro X p l e s m args below meth cd H locs ls C z hl hr hS
  obtain ⟨hd, rfl⟩ := hd
  subst he
  exact va_aldq (D := X.2.2.1) (cl := vwCl) (ws := toW X sh h) C.1 C.2.1 C.2.2.2.2.2.2.2.1 hr c 5 (toW_at hc) (TYs_at X (by decide)) hi hd (kk X p l e s m args below meth cd H locs ls C z hl hr hS)
theorem J_aald6 {c n : Nat} {i : Int32} {r : Option Nat} (hd : DI M pc .aaload 1 nx) (hc : sh[c]? = some (.inr (6, n))) (hi : vp_in i n) (he : h.2.2 c i.toNatClampNeg = r) (kk : J M R sh0 Z nx L (pR r :: st) sh h) : J M R sh0 Z pc L (pI i :: pR (some c) :: st) sh h := by
  intro X p l e s m args below meth cd H locs ls C z hl hr hS
  obtain ⟨hd, rfl⟩ := hd
  subst he
  exact va_aldq (D := X.2.2.1) (cl := vwCl) (ws := toW X sh h) C.1 C.2.1 C.2.2.2.2.2.2.2.1 hr c 6 (toW_at hc) (TYs_at X (by decide)) hi hd (kk X p l e s m args below meth cd H locs ls C z hl hr hS)
theorem J_aald7 {c n : Nat} {i : Int32} {r : Option Nat} (hd : DI M pc .aaload 1 nx) (hc : sh[c]? = some (.inr (7, n))) (hi : vp_in i n) (he : h.2.2 c i.toNatClampNeg = r) (kk : J M R sh0 Z nx L (pR r :: st) sh h) : J M R sh0 Z pc L (pI i :: pR (some c) :: st) sh h := by
  intro X p l e s m args below meth cd H locs ls C z hl hr hS
  obtain ⟨hd, rfl⟩ := hd
  subst he
  have hlt : i.toNatClampNeg < n := Nat.not_le.mp fun q => hi (Or.inr q)
  exact W.aald (v := va_rf ((h.2.2 c i.toNatClampNeg).map (fun q => X.1 + q))) (ty := tyK 7) C.1 C.2.1 (hr c _ (toW_at hc)) ((C.2.2.2.2.2.2.2.1.2 7 _ (TYs_at X (by decide))).1 n (fun j => va_rf ((h.2.2 c j).map (fun q => X.1 + q)))) rfl (fun q => by cases q) (by show ¬ (i < 0 ∨ (arrV _ _ _).slots.size ≤ _); rw [arrV_size]; exact hi) (by show (arrV _ _ _).slots[_]? = _; rw [arrV_read _ _ hlt]) rfl rfl hd (kk X p l e s m args below meth cd H locs ls C z hl hr hS)
theorem J_aald8 {c n : Nat} {i : Int32} {r : Option Nat} (hd : DI M pc .aaload 1 nx) (hc : sh[c]? = some (.inr (8, n))) (hi : vp_in i n) (he : h.2.2 c i.toNatClampNeg = r) (kk : J M R sh0 Z nx L (pR r :: st) sh h) : J M R sh0 Z pc L (pI i :: pR (some c) :: st) sh h := by
  intro X p l e s m args below meth cd H locs ls C z hl hr hS
  obtain ⟨hd, rfl⟩ := hd
  subst he
  have hlt : i.toNatClampNeg < n := Nat.not_le.mp fun q => hi (Or.inr q)
  exact W.aald (v := va_rf ((h.2.2 c i.toNatClampNeg).map (fun q => X.1 + q))) (ty := tyK 8) C.1 C.2.1 (hr c _ (toW_at hc)) ((C.2.2.2.2.2.2.2.1.2 8 _ (TYs_at X (by decide))).1 n (fun j => va_rf ((h.2.2 c j).map (fun q => X.1 + q)))) rfl (fun q => by cases q) (by show ¬ (i < 0 ∨ (arrV _ _ _).slots.size ≤ _); rw [arrV_size]; exact hi) (by show (arrV _ _ _).slots[_]? = _; rw [arrV_read _ _ hlt]) rfl rfl hd (kk X p l e s m args below meth cd H locs ls C z hl hr hS)
end JH
