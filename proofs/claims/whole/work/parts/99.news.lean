/-! ===== new cells ===== -/
/-- a new cell holds nothing -/
def zc (h : PH) (c : Nat) : PH := (up2 h.1 c (fun _ => 0), up2 h.2.1 c (fun _ => 0), up2 h.2.2 c (fun _ => none))
theorem fvl_zc {base : Nat} {ty : FieldType} {h : PH} {c c' k : Nat} (hc : c' ≠ c) : fvl base ty (zc h c) c' k = fvl base ty h c' k := by
  cases ty <;> simp [fvl, zc, up2_ne _ _ hc]
theorem toE_zc {X : Cx} {s : Nat ⊕ (Nat × Nat)} {h : PH} {c c' : Nat} (hc : c' ≠ c) : toE X s (zc h c) c' = toE X s h c' := by
  rcases s with ci | ⟨kd, n⟩
  · simp only [toE, fvl_zc hc]
  · simp only [toE, arE, zc, up2_ne _ _ hc]
theorem toW_app {X : Cx} {sh : SH} {s : Nat ⊕ (Nat × Nat)} {h : PH} : toW X (sh ++ [s]) h = toW X sh h ++ [(X.1 + sh.length, toE X s h sh.length)] := by
  unfold toW
  rw [List.mapIdx_append]
  simp
theorem toW_zc {X : Cx} {sh : SH} {h : PH} : toW X sh (zc h sh.length) = toW X sh h := by
  apply List.ext_getElem?
  intro i
  unfold toW
  rw [List.getElem?_mapIdx, List.getElem?_mapIdx]
  cases e : sh[i]? with
  | none => rfl
  | some a =>
    have hi := (List.getElem?_eq_some_iff.mp e).1
    show some (X.1 + i, toE X a (zc h sh.length) i) = some (X.1 + i, toE X a h i)
    rw [toE_zc (by omega)]
theorem TK_s {n : Nat} {s : Nat ⊕ (Nat × Nat)} (h : SHF[n]? = some s) : SHF.take (n + 1) = SHF.take n ++ [s] := by
  rw [List.take_succ, h]
  rfl
theorem TK_len {n : Nat} (h : n ≤ 187) : (SHF.take n).length = n := by
  rw [List.length_take]
  have e : SHF.length = 187 := rfl
  omega
theorem TK_z {n : Nat} {s : Nat ⊕ (Nat × Nat)} (h : SHF[n]? = some s) : ssz (SHF.take (n + 1)) = ssz (SHF.take n) + ssz1 s := by
  rw [TK_s h, ssz_app]
  unfold ssz
  simp
theorem new_at {X : Cx} {sh : SH} {h : PH} {q : Nat} {e : va_E} {H1 : Heap} (hP : va_P X.2.2.1 vwCl (toW X sh h ++ [(q, e)]) H1) (hD : va_D (AA X) (toW X sh h ++ [(q, e)])) (hz : H1.size ≤ X.1 + sh.length + 1) : q = X.1 + sh.length := by
  have hq : (toW X sh h ++ [(q, e)])[sh.length]? = some (q, e) := by
    rw [List.getElem?_append_right (by rw [toW_len]; exact Nat.le_refl _), toW_len, Nat.sub_self]
    rfl
  have h1 : X.1 ≤ q := hD.2 _ _ hq
  have h2 : q < H1.size := (hP _ _ hq).lt
  by_cases g : q < X.1 + sh.length
  · have hc : q - X.1 < sh.length := by omega
    have ha := toW_at (X := X) (h := h) (List.getElem?_eq_getElem hc)
    have hb : (toW X sh h ++ [(q, e)])[q - X.1]? = some (X.1 + (q - X.1), toE X sh[q - X.1] h (q - X.1)) := by
      rw [List.getElem?_append_left (by rw [toW_len]; exact hc)]
      exact ha
    have := hD.1 _ _ _ _ hb hq (by show X.1 + (q - X.1) = q; omega)
    omega
  · omega
theorem rep_new {X : Cx} {n : Nat} {s : Nat ⊕ (Nat × Nat)} {h : PH} {H1 : Heap} (hs : SHF[n]? = some s) (hP : va_P X.2.2.1 vwCl (toW X (SHF.take n) h ++ [(X.1 + n, toE X s (zc h n) n)]) H1) : Rep X (SHF.take (n + 1)) (zc h n) H1 := by
  have hn : n < 187 := (List.getElem?_eq_some_iff.mp hs).1
  have hl := TK_len (Nat.le_of_lt hn)
  unfold Rep
  rw [TK_s hs, toW_app, hl]
  have e := toW_zc (X := X) (sh := SHF.take n) (h := h)
  rw [hl] at e
  rw [e]
  exact hP
def noFD : FieldType → Bool
  | .float => false
  | .double => false
  | _ => true
theorem cl_noFD : ∀ ci, ci < 11 → ∀ k, k < clN ci → noFD (clTy ci k) = true := by decide +kernel
theorem fvl_new {base : Nat} {ty : FieldType} {h : PH} {c k : Nat} (hf : noFD ty = true) : fvl base ty (zc h c) c k = defaultValue ty := by
  cases ty <;> first | (simp [noFD] at hf; done) | simp [fvl, zc, up2_self, defaultValue, va_rf]
section JN
variable {M : MD} {R : Room} {sh0 : SH} {Z : ZT} {pc nx : Nat} {L : List (Option PV)} {st : List PV} {h : PH}
/-- the room that a new cell needs -/
def NR (R : Room) (sh0 : SH) (n m : Nat) : Prop := (sh0.length ≤ n ∧ ssz sh0 ≤ ssz (SHF.take n)) ∧ m - sh0.length ≤ R.cells ∧ ssz (SHF.take m) - ssz sh0 ≤ R.slots
theorem J_new {i ci n : Nat} (hd : DI M pc (.new i) 3 nx) (hcl : Cond.classLink (mown M) i (clR ci) ∈ lw_g) (hin : Cond.instantiable (clR ci) (clN ci) ∈ lw_g) (hii : Cond.initialized (clR ci) ∈ lw_g) (hci : ci < 11) (hs : SHF[n]? = some (.inl ci)) (hr0 : NR R sh0 n (n + 1)) (kk : J M R sh0 Z nx L (pR (some n) :: st) (SHF.take (n + 1)) (zc h n)) : J M R sh0 Z pc L st (SHF.take n) h := by
  intro X p l e s m args below meth cd H locs ls C z hl hr hS
  obtain ⟨hd, rfl⟩ := hd
  obtain ⟨⟨r0, r1⟩, r2, r3⟩ := hr0
  have hn : n < 187 := (List.getElem?_eq_some_iff.mp hs).1
  have eL := TK_len (Nat.le_of_lt hn)
  have eL' := TK_len (n := n + 1) hn
  have eZ := TK_z hs
  have eZ' : ssz (SHF.take (n + 1)) = ssz (SHF.take n) + clN ci := eZ
  have hts := C.2.2.2.2.2.1
  refine va_new (D := X.2.2.1) (cl := vwCl) (ws := toW X (SHF.take n) h) (A := AA X) (H0 := s.heap) (C := clR ci) (T := clT ci) (N := clN ci) (ci := ci) (fs := (List.range (clN ci)).map (fun k => fvl X.1 (clTy ci k) (zc h n) n k)) C.1 C.2.1 hts (cl_in hci) (clTy ci) (cl_ty hci) C.2.2.2.2.1 (hts _ hcl) (hts _ hin) (hts _ hii) C.2.2.2.2.2.2.2.1 hr (toW_D X _ h) hS (fun q hq => Nat.le_trans C.2.2.2.2.2.2.2.2.2.1 hq) (vwCl_at hci) (fun j hj => ?_) (by rw [eL]; omega) (by omega) hd (fun q H1 hP hD hS1 => ?_)
  · unfold vp_V
    rw [List.getD_eq_getElem?_getD, fld_at hj, fvl_new (cl_noFD ci hci j hj)]
    rfl
  · intro T hT Xs
    have hz : H1.size ≤ X.1 + (SHF.take n).length + 1 := by
      have h1 := Xs.heapSize
      have h2 := C.2.2.2.2.2.2.2.2.2.2.2
      rw [hT, eL] at h1
      rw [eL]
      omega
    have hq := new_at hP hD hz
    rw [eL] at hq
    subst hq
    rw [eL, show n - sh0.length + 1 = (SHF.take (n + 1)).length - sh0.length by rw [eL']; omega, show ssz (SHF.take n) - ssz sh0 + clN ci = ssz (SHF.take (n + 1)) - ssz sh0 by omega] at Xs
    exact kk X p l e s m args below meth cd H1 locs ls C z hl (rep_new hs hP) hS1 T hT Xs
/-- the class of an array is told by its name -/
theorem arr_cls {X : Cx} {s : State} {cA : ClassId} {kd : Nat} (hkd : kd < 9) (hK : va_K X.2.2.1 vwCl (TYs X) s) (hK' : va_K X.2.2.1 vwCl (TYs X ++ [(cA, tyK kd)]) s) : cA = X.2.2.2 kd := by
  have h1 := (hK.2 kd _ (TYs_at X hkd)).2
  have h2 := (hK'.2 9 (cA, tyK kd) (by rw [List.getElem?_append_right (by simp [TYs])]; simp [TYs])).2
  revert h1 h2
  show va_RA s (X.2.2.2 kd) (tyK kd) → va_RA s cA (tyK kd) → _
  cases tyK kd with
  | object C =>
    rintro ⟨_, _, -, -, -, a⟩ ⟨_, _, -, -, -, b⟩
    exact Option.some.inj (b.symm.trans a)
  | _ => exact fun a b => Option.some.inj (Eq.trans (Eq.symm b) a)
theorem J_newa {at_ : ArrayType} {kd n N : Nat} (hd : DI M pc (.newarray at_) 2 nx) (hkd : kd < 4) (hty : newarray.typeOf at_ = tyK kd) (harr : Cond.arrayClass (newarray.typeOf at_) ∈ lw_g) (hN : N ≤ 1000) (hs : SHF[n]? = some (.inr (kd, N))) (hr0 : NR R sh0 n (n + 1)) (kk : J M R sh0 Z nx L (pR (some n) :: st) (SHF.take (n + 1)) (zc h n)) : J M R sh0 Z pc L (pI (nI N) :: st) (SHF.take n) h := by
  intro X p l e s m args below meth cd H locs ls C z hl hr hS
  obtain ⟨hd, rfl⟩ := hd
  obtain ⟨⟨r0, r1⟩, r2, r3⟩ := hr0
  have hn : n < 187 := (List.getElem?_eq_some_iff.mp hs).1
  have eL := TK_len (Nat.le_of_lt hn)
  have eL' := TK_len (n := n + 1) hn
  have eZ' : ssz (SHF.take (n + 1)) = ssz (SHF.take n) + N := TK_z hs
  have hts := C.2.2.2.2.2.1
  have hcb : componentBytes (tyK kd) ≤ 8 := by
    rcases (show kd = 0 ∨ kd = 1 ∨ kd = 2 ∨ kd = 3 by omega) with rfl | rfl | rfl | rfl <;> decide
  refine va_newa (D := X.2.2.1) (cl := vwCl) (tys := TYs X) (ws := toW X (SHF.take n) h) (A := AA X) (H0 := s.heap) (N' := N) (a0 := (N, arE X.1 kd (zc h n) n)) C.1 C.2.1 (hts _ harr) hty C.2.2.2.2.2.2.2.1 hr (toW_D X _ h) hS (fun q hq => Nat.le_trans C.2.2.2.2.2.2.2.2.2.1 hq) (fun cA => ?_) (by rw [Int32.lt_iff_toInt_lt, nI_toInt (by omega)]; show ¬ (N : Int) < 0; omega) (nI_clamp (by omega)) (by have := Nat.mul_le_mul hN hcb; omega) (by rw [eL]; omega) (by omega) hd (fun q cA H1 hK1 hP hD hS1 => ?_)
  · rcases (show kd = 0 ∨ kd = 1 ∨ kd = 2 ∨ kd = 3 by omega) with rfl | rfl | rfl | rfl <;> simp [arE, zc, up2_self, vp_cell, tyK, defaultValue] <;> rfl
  · intro T hT Xs
    have hz : H1.size ≤ X.1 + (SHF.take n).length + 1 := by
      have h1 := Xs.heapSize
      have h2 := C.2.2.2.2.2.2.2.2.2.2.2
      rw [hT, eL] at h1
      rw [eL]
      omega
    have hq := new_at hP hD hz
    have hc := arr_cls (kd := kd) (by omega) C.2.2.2.2.2.2.2.1 hK1
    rw [eL] at hq
    subst hq
    subst hc
    rw [eL, show n - sh0.length + 1 = (SHF.take (n + 1)).length - sh0.length by rw [eL']; omega, show ssz (SHF.take n) - ssz sh0 + N = ssz (SHF.take (n + 1)) - ssz sh0 by omega] at Xs
    exact kk X p l e s m args below meth cd H1 locs ls C z hl (rep_new hs hP) hS1 T hT Xs
theorem J_newq {i kd n N : Nat} {Cn : String} (hd : DI M pc (.anewarray i) 3 nx) (hkd : 4 ≤ kd ∧ kd < 7) (hty : tyK kd = .object Cn) (hcl : Cond.classLink (mown M) i Cn ∈ lw_g) (hao : FieldType.object Cn ∈ aoL) (hN : N ≤ 1000) (hs : SHF[n]? = some (.inr (kd, N))) (hr0 : NR R sh0 n (n + 1)) (kk : J M R sh0 Z nx L (pR (some n) :: st) (SHF.take (n + 1)) (zc h n)) : J M R sh0 Z pc L (pI (nI N) :: st) (SHF.take n) h := by
  intro X p l e s m args below meth cd H locs ls C z hl hr hS
  obtain ⟨hd, rfl⟩ := hd
  obtain ⟨⟨r0, r1⟩, r2, r3⟩ := hr0
  have hn : n < 187 := (List.getElem?_eq_some_iff.mp hs).1
  have eL := TK_len (Nat.le_of_lt hn)
  have eL' := TK_len (n := n + 1) hn
  have eZ' : ssz (SHF.take (n + 1)) = ssz (SHF.take n) + N := TK_z hs
  have hts := C.2.2.2.2.2.1
  refine va_newq (D := X.2.2.1) (cl := vwCl) (tys := TYs X) (ws := toW X (SHF.take n) h) (A := AA X) (H0 := s.heap) (C := Cn) (N' := N) C.1 C.2.1 C.2.2.2.2.1 (hts _ hcl) (va_AO.of (C.2.2.2.2.2.2.2.2.1.2.2.2.2.2.2 _ hao)) C.2.2.2.2.2.2.2.1 hr (toW_D X _ h) hS (fun q hq => Nat.le_trans C.2.2.2.2.2.2.2.2.2.1 hq) (by rw [Int32.lt_iff_toInt_lt, nI_toInt (by omega)]; show ¬ (N : Int) < 0; omega) (nI_clamp (by omega)) (by omega) (by rw [eL]; omega) (by omega) hd (fun q cA H1 hK1 hP hD hS1 => ?_)
  intro T hT Xs
  have hz : H1.size ≤ X.1 + (SHF.take n).length + 1 := by
    have h1 := Xs.heapSize
    have h2 := C.2.2.2.2.2.2.2.2.2.2.2
    rw [hT, eL] at h1
    rw [eL]
    omega
  have hq := new_at hP hD hz
  have hc := arr_cls (kd := kd) (by omega) C.2.2.2.2.2.2.2.1 (by rw [hty]; exact hK1)
  rw [eL] at hq
  subst hq
  subst hc
  rw [eL, show n - sh0.length + 1 = (SHF.take (n + 1)).length - sh0.length by rw [eL']; omega, show ssz (SHF.take n) - ssz sh0 + N = ssz (SHF.take (n + 1)) - ssz sh0 by omega] at Xs
  have e2 : toE X (.inr (kd, N)) (zc h n) n = .inl (X.2.2.2 kd, N, .inr (.inr (.inr (.inr (fun _ => none))))) := by
    simp only [toE, arE]
    rw [if_neg (by omega), if_neg (by omega)]
    simp [zc, up2_self]
  exact kk X p l e s m args below meth cd H1 locs ls C z hl (rep_new hs (by rw [e2]; exact hP)) hS1 T hT Xs
theorem J_aast {kd ci c v n : Nat} {i : Int32} {sh : SH} (hd : DI M pc .aastore 1 nx) (hkd : 4 ≤ kd ∧ kd < 7) (hci : ci < 11) (hty : tyK kd = .object (clR ci)) (hc : sh[c]? = some (.inr (kd, n))) (hv : sh[v]? = some (.inl ci)) (hi : vp_in i n) (kk : J M R sh0 Z nx L st sh (sR h c i.toNatClampNeg (some v))) : J M R sh0 Z pc L (pR (some v) :: pI i :: pR (some c) :: st) sh h := by
  intro X p l e s m args below meth cd H locs ls C z hl hr hS
  obtain ⟨hd, rfl⟩ := hd
  have e0 : toE X (.inr (kd, n)) h c = .inl (X.2.2.2 kd, n, .inr (.inr (.inr (.inr (fun i => (h.2.2 c i).map (fun q => X.1 + q)))))) := by
    simp only [toE, arE]
    rw [if_neg (by omega), if_neg (by omega)]
  refine va_astq (D := X.2.2.1) (cl := vwCl) (tys := TYs X) (ws := toW X sh h) (r := (clR ci, clT ci, clN ci)) C.1 C.2.1 C.2.2.2.2.2.2.2.1 hr (toW_D X sh h) hS c kd v ci (by rw [toW_at hc, e0]) (by rw [TYs_at X (by omega), hty]) (toW_at hv) (vwCl_at hci) hi hd (fun H1 locs1 hP hD hS1 => ?_)
  refine kk X p l e s m args below meth cd H1 locs1 ls C z hl (Rep.set (H0 := s.heap) (locs := locs1) hr hc (s := .inr (kd, n)) ?_ (fun a s' ha _ => toE_wR ha)) hS1
  have e2 : toE X (.inr (kd, n)) (sR h c i.toNatClampNeg (some v)) c = .inl (X.2.2.2 kd, n, .inr (.inr (.inr (.inr (va_up (fun i => (h.2.2 c i).map (fun q => X.1 + q)) i.toNatClampNeg (some (X.1 + v))))))) := by
    simp only [toE, arE]
    rw [if_neg (by omega), if_neg (by omega)]
    congr 7
    funext j
    show ((up2 h.2.2 c (va_up (h.2.2 c) i.toNatClampNeg (some v)) c j).map _) = _
    rw [up2_self]
    by_cases q : j = i.toNatClampNeg
    · simp [va_up, q]
    · simp [va_up, q]
  rw [e2]
  exact hP
theorem J_obj {i : Nat} {sh : SH} {c : Nat} (hd : DI M pc (.invokespecial i) 3 nx) (hk : Cond.methodLink (mown M) i Lib.objectInit ∈ lw_g) (hin : Cond.instanceMethod Lib.objectInit ∈ lw_g) (hco : Cond.code Lib.objectInit ⟨#[0xb1]⟩ 1 none ∈ lw_g) (hf : 1 ≤ R.frames) (hw : (st.map pcat).sum + 12 ≤ R.locals) (kk : J M R sh0 Z nx L st sh h) : J M R sh0 Z pc L (pR (some c) :: st) sh h := by
  intro X p l e s m args below meth cd H locs ls C z hl hr hS
  obtain ⟨hd, rfl⟩ := hd
  have hts := C.2.2.2.2.2.1
  exact W.objInit (a := X.1 + c) (rest := st.map (re X)) C.1 C.2.1 C.2.2.2.2.1 (hts _ hk) (hts _ hin) (hts _ hco) rfl (hl.1.trans C.2.2.2.1.symm) rfl hd hf (by rw [st_cat]; show 2 * 0 + (st.map pcat).sum + 12 ≤ R.locals; omega) (kk X p l e s m args below meth cd H locs ls C z hl hr hS)
end JN
