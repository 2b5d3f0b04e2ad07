/-! ===== the law's own rules ===== -/
/-- the law's end, its script: Ln ints xs -/
def ZW (Ln : Nat) (xs : Nat → Int32) : ZT := (fun X below args s t => args = #[Value.ref (X.2.1 31)] → lw_Z below args s t, fun X s => va_X (X.2.1 31) Ln xs s s.heap ∧ X.2.1 31 < X.1 ∧ X.1 = s.heap.size)
/-- the law's locals: the script, the class's object, the model's object, the place in the script -/
def LW (j : Nat) : List (Option PV) := [some (pX 31), some (pR (some 0)), some (pR (some 158)), some (pI (nI (7 * j)))]
def bz (x : Int32) : Nat := if x = 0 then 0 else 1
theorem bz_lt {x : Int32} : bz x < 2 := by
  unfold bz
  split <;> decide
section JW
variable {sh0 : SH} {pc nx : Nat} {L : List (Option PV)} {st : List PV} {sh : SH} {h : PH} {Ln : Nat} {xs : Nat → Int32}
theorem J_sld {i : Int32} (hd : DI mL_law pc .iaload 1 nx) (hi : vp_in i Ln) (kk : J mL_law room_1 sh0 (ZW Ln xs) nx L (pI (xs i.toNatClampNeg) :: st) sh h) : J mL_law room_1 sh0 (ZW Ln xs) pc L (pI i :: pX 31 :: st) sh h := by
  intro X p l e s m args below meth cd H locs ls C z hl hr hS
  obtain ⟨hd, rfl⟩ := hd
  have z1 := z.2.1
  have z2 := z.2.2
  exact va_sld C.1 C.2.1 z.1 (by omega) (fun q => absurd (show X.1 ≤ X.2.1 31 from q) (by omega)) hS hi hd (kk X p l e s m args below meth cd H locs ls C z hl hr hS)
theorem J_sldN {j : Nat} (hd : DI mL_law pc .iaload 1 nx) (hj : j < Ln) (hL : Ln ≤ 3584) (kk : J mL_law room_1 sh0 (ZW Ln xs) nx L (pI (xs j) :: st) sh h) : J mL_law room_1 sh0 (ZW Ln xs) pc L (pI (nI j) :: pX 31 :: st) sh h :=
  J_sld hd (vp_in_nI hj (by omega)) (by rw [nI_clamp (by omega)]; exact kk)
theorem J_slen (hd : DI mL_law pc .arraylength 1 nx) (kk : J mL_law room_1 sh0 (ZW Ln xs) nx L (pI (nI Ln) :: st) sh h) : J mL_law room_1 sh0 (ZW Ln xs) pc L (pX 31 :: st) sh h := by
  intro X p l e s m args below meth cd H locs ls C z hl hr hS
  obtain ⟨hd, rfl⟩ := hd
  have z1 := z.2.1
  have z2 := z.2.2
  exact va_slen C.1 C.2.1 z.1 (by omega) (fun q => absurd (show X.1 ≤ X.2.1 31 from q) (by omega)) hS hd (kk X p l e s m args below meth cd H locs ls C z hl hr hS)
/-- the law answers true -/
theorem J_end (hd : DI mL_law pc .ireturn 1 nx) (hc : sh.length - sh0.length ≤ 600000) (hz : ssz sh - ssz sh0 ≤ 7302250) : J mL_law room_1 sh0 (ZW Ln xs) pc L [pI (nI 1)] sh h := by
  intro X p l e s m args below meth cd H locs ls C z hl hr hS
  have z2 := z.2.2
  by_cases q : args = #[Value.ref (X.2.1 31)]
  · subst q
    refine va_forget (fun y hy => by have t : X.1 ≤ y.base := hS.2.2 y hy; omega) (W.widen hc hz ?_)
    intro T hT Xs
    obtain ⟨t, a, b⟩ := lw_ret (b := X.2.1 31) C.1 C.2.1 C.2.2.1 C.2.2.2.2.2.2.1 hd.1 T hT Xs
    exact ⟨t, a, fun _ => b⟩
  · intro T hT Xs
    exact ⟨_, Steps.refl _, fun y => absurd y q⟩
/-- the test of the loop -/
theorem law_cmp {j : Nat} (hL : Ln ≤ 3584) (hj : j ≤ 3584) : nI Ln - nI 7 < nI j ↔ Ln < j + 7 := by
  have e : (nI Ln - nI 7).toInt = (Ln : Int) - 7 := by
    rw [Int32.toInt_sub, nI_toInt (by omega), nI_toInt (by omega)]
    apply Int.bmod_eq_of_le <;> omega
  rw [Int32.lt_iff_toInt_lt, e, nI_toInt (by omega)]
  omega
/-- one of the script's ints is laid upon the stack -/
theorem J_arg {j k p1 p2 p3 p4 : Nat} (d0 : DI mL_law pc (.aload_n 0) 1 p1) (d1 : DI mL_law p1 (.iload_n 3) 1 p2) (d2 : DI mL_law p2 (.iconst (k : Int)) 1 p3) (d3 : DI mL_law p3 .iadd 1 p4) (d4 : DI mL_law p4 .iaload 1 nx) (hk : 7 * j + k < Ln) (hL : Ln ≤ 3584) (kk : J mL_law room_1 sh0 (ZW Ln xs) nx (LW j) (pI (xs (7 * j + k)) :: st) sh h) : J mL_law room_1 sh0 (ZW Ln xs) pc (LW j) st sh h :=
  J_xload_n d0 rfl (J_iload_n d1 rfl (J_iconstN d2 (J_iaddN d3 (J_sldN d4 hk hL kk))))
theorem J_argB {j k p1 p2 p3 p4 : Nat} (d0 : DI mL_law pc (.aload_n 0) 1 p1) (d1 : DI mL_law p1 (.iload_n 3) 1 p2) (d2 : DI mL_law p2 (.bipush (k : Int)) 2 p3) (d3 : DI mL_law p3 .iadd 1 p4) (d4 : DI mL_law p4 .iaload 1 nx) (hb : (Int8.ofInt (k : Int)).toInt32 = nI k) (hk : 7 * j + k < Ln) (hL : Ln ≤ 3584) (kk : J mL_law room_1 sh0 (ZW Ln xs) nx (LW j) (pI (xs (7 * j + k)) :: st) sh h) : J mL_law room_1 sh0 (ZW Ln xs) pc (LW j) st sh h :=
  J_xload_n d0 rfl (J_iload_n d1 rfl (J_bipush d2 hb (J_iaddN d3 (J_sldN d4 hk hL kk))))
/-- an int is told as a boolean -/
theorem J_bool {x : Int32} {Z : ZT} {R : Room} {p1 p2 p3 : Nat} (d0 : DI mL_law pc (.ifCond .eq ((p3 : Int) - (pc : Int))) 3 p1) (d1 : DI mL_law p1 (.iconst 1) 1 p2) (d2 : DI mL_law p2 (.goto ((nx : Int) - (p2 : Int))) 3 p3) (d3 : DI mL_law p3 (.iconst 0) 1 nx) (kk : J mL_law R sh0 Z nx L (pI (nI (bz x)) :: st) sh h) : J mL_law R sh0 Z pc L (pI x :: st) sh h := by
  refine J_if_eq d0 (fun q => ?_) (fun q => ?_)
  · refine J_iconstN (n := 0) d3 ?_
    have e : bz x = 0 := if_pos q
    rw [e] at kk
    exact kk
  · refine J_iconstN (n := 1) d1 (J_goto d2 ?_)
    have e : bz x = 1 := if_neg q
    rw [e] at kk
    exact kk
theorem J_cWI {M M2 : MD} {R : Room} {Z : ZT} {i ci c n : Nat} {as : List PV} {st0 : List PV} {P : Int32 → PH → Prop} (hd : DI M pc (.invokevirtual i) 3 nx) (hk : MLk (mown M) i M2) (hok : MOK M2 n) (hv : MVt M2) (hc : SHF[c]? = some (.inl ci)) (hci : ci < 11) (hcl : clR ci = (my M2).cls) (hst : st0 = as.reverse ++ pR (some c) :: st) (hn : as.length = n) (hw : (st.map pcat).sum ≤ 8) (hrm : mfr M2 + 1 ≤ R.frames ∧ 8 + (mnL M2 + 11) + mlo M2 ≤ R.locals) (hcr : CR R sh0 SHF SHF) (hct : CtI M2 h (pR (some c) :: as) P) (kk : ∀ v h', P v h' → J M R sh0 Z nx L (pI v :: st) SHF h') : J M R sh0 Z pc L st0 SHF h := J_callV hd hk hok hv hc hci hcl hst hn hw hrm hcr hct (fun r h' ⟨v, e, q⟩ => by subst e; exact kk v h' q)
theorem J_cWL {M M2 : MD} {R : Room} {Z : ZT} {i ci c n : Nat} {as : List PV} {st0 : List PV} {P : Int64 → PH → Prop} (hd : DI M pc (.invokevirtual i) 3 nx) (hk : MLk (mown M) i M2) (hok : MOK M2 n) (hv : MVt M2) (hc : SHF[c]? = some (.inl ci)) (hci : ci < 11) (hcl : clR ci = (my M2).cls) (hst : st0 = as.reverse ++ pR (some c) :: st) (hn : as.length = n) (hw : (st.map pcat).sum ≤ 8) (hrm : mfr M2 + 1 ≤ R.frames ∧ 8 + (mnL M2 + 11) + mlo M2 ≤ R.locals) (hcr : CR R sh0 SHF SHF) (hct : CtL M2 h (pR (some c) :: as) P) (kk : ∀ v h', P v h' → J M R sh0 Z nx L (pL v :: st) SHF h') : J M R sh0 Z pc L st0 SHF h := J_callV hd hk hok hv hc hci hcl hst hn hw hrm hcr hct (fun r h' ⟨v, e, q⟩ => by subst e; exact kk v h' q)
end JW
theorem crW : CR room_1 [] SHF SHF := ⟨⟨by decide +kernel, by decide +kernel⟩, ⟨by decide +kernel, by decide +kernel⟩, by decide +kernel, by decide +kernel⟩
/-- both have done a call -/
theorem St.next {h h1 h2 : PH} {A A' : AS} (S : St h A) (q : XQ h h1 A') (m : MP h1 h2 A') (w : WF A') : St h2 A' := by
  obtain ⟨⟨p, x⟩, -, g⟩ := q
  exact ⟨m.2.g g, ⟨p, x.far w m.2⟩, m.1, w⟩
/-! the states behind each call -/
theorem WF.feed {A : AS} (a : WF A) {x y z u v : Int32} : WF (if aN A ≤ 880 then wT A (pt20 (aT A) (aN A) x y z u v) (aN A + 20) else A) := by
  split
  · next q =>
    exact ⟨by show aN A + 20 ≤ 900; omega, pt20_B a.2.1, a.2.2⟩
  · exact a
theorem WF.ends {A : AS} (a : WF A) {n : Int32} : WF (endS A n) := by
  unfold endS
  split
  · next q =>
    have b := (inR_cl q (by have := a.1; omega)).2
    exact ⟨by show cl n ≤ 900; have := a.1; omega, a.2⟩
  · exact a
theorem WF.rule {A : AS} (a : WF A) {t k l : Int32} : WF (ruleS A t k l) := by
  unfold ruleS
  split
  · next q =>
    have b1 := (inR_cl q.2.1 (by decide)).2
    have b2 := (inR_cl q.2.2 (by decide)).2
    obtain ⟨a1, a2, a3, a4, a5⟩ := a
    refine ⟨a1, a2, a3, fun j hj => ?_, a5⟩
    show (if j = cl t then (if (0 : Nat) = 0 then cl k else cl l) else aU A j 0) ≤ 2 ∧ (if j = cl t then (if (1 : Nat) = 0 then cl k else cl l) else aU A j 1) ≤ 40
    by_cases e : j = cl t
    · rw [if_pos e, if_pos e, if_pos rfl, if_neg (by decide)]
      exact ⟨by omega, by omega⟩
    · rw [if_neg e, if_neg e]
      exact a4 j hj
  · exact a
theorem WF.begins {A : AS} (a : WF A) {s : Int32} : WF (beginS A s) := by
  unfold beginS
  split
  · next q => exact a.bg q.2.1 q.2.2
  · exact a.emp
theorem WF.gos {A : AS} (a : WF A) {n : Int32} : WF (goS A n) := by
  unfold goS
  split
  · next q => exact a.goN q.2.1 _ q.2.2
  · exact a
theorem WF.keeps_ {A : AS} (a : WF A) {k : Int32} : WF (keepS A k) := by
  unfold keepS
  split
  · exact a.run (a.rn (by decide))
  · exact a
theorem WF.takes {A : AS} (a : WF A) {k : Int32} : WF (takeS A k) := by
  unfold takeS
  split
  · next q =>
    have b := (inR_cl q.1 (by decide)).2
    exact a.run (a.rn (by omega))
  · exact a
