/-! ===== the public calls: words ===== -/
theorem inR_a {x : Int32} {n : Nat} (hn : n < 2 ^ 31) (h1 : ¬ x < 0) (h2 : x < nI n) : inR x n := ⟨le_0_.mp (Int32.not_lt.mp h1), (lt_nI hn).mp h2⟩
theorem inR_b {x : Int32} {n : Nat} (hn : n < 2 ^ 31) (h1 : ¬ x < 0) (h2 : ¬ nI n ≤ x) : inR x n := inR_a hn h1 (Int32.not_le.mp h2)
theorem inR_c {x : Int32} {n : Nat} (hn : n < 2 ^ 31) (h1 : ¬ x < 0) (h2 : x ≤ nI n) : inR x (n + 1) := ⟨le_0_.mp (Int32.not_lt.mp h1), by have := (le_nI hn).mp h2; omega⟩
theorem inR_d {x : Int32} {n : Nat} (hn : n < 2 ^ 31) (h1 : ¬ x < 0) (h2 : ¬ nI n < x) : inR x (n + 1) := inR_c hn h1 (Int32.not_lt.mp h2)
theorem inR_e {x : Int32} {n : Nat} (hn : n < 2 ^ 30) (h : nI 0 ≤ x ∧ x ≤ nI n) : inR x (n + 1) := (in_iffN hn).mp h
theorem zT : (0 : Int32).toInt = 0 := rfl
theorem tn0 : (nI 0).toInt = 0 := by decide
theorem tn1 : (nI 1).toInt = 1 := by decide
theorem tn2 : (nI 2).toInt = 2 := by decide
theorem tn3 : (nI 3).toInt = 3 := by decide
theorem tn4 : (nI 4).toInt = 4 := by decide
theorem tn5 : (nI 5).toInt = 5 := by decide
theorem tn6 : (nI 6).toInt = 6 := by decide
theorem tn10 : (nI 10).toInt = 10 := by decide
theorem tn19 : (nI 19).toInt = 19 := by decide
theorem tn20 : (nI 20).toInt = 20 := by decide
theorem tn40 : (nI 40).toInt = 40 := by decide
theorem tn48 : (nI 48).toInt = 48 := by decide
theorem tn80 : (nI 80).toInt = 80 := by decide
theorem tn89 : (nI 89).toInt = 89 := by decide
theorem tn90 : (nI 90).toInt = 90 := by decide
theorem tn99 : (nI 99).toInt = 99 := by decide
theorem tn999 : (nI 999).toInt = 999 := by decide
theorem tn9999 : (nI 9999).toInt = 9999 := by decide
theorem tI {n : Nat} (h : n < 2 ^ 31) : (nI n).toInt = n := nI_toInt h
abbrev cl (x : Int32) : Nat := x.toNatClampNeg
/-- what a call leaves: the class's cells alone, the model's cells alone -/
abbrev XP (h h' : PH) (p : Nat) (A : AS) : Prop := XI h' p A ∧ Fr 0 157 h h'
abbrev MP (h h' : PH) (A : AS) : Prop := MI h' A ∧ Fr 158 186 h h'
abbrev wT (A : AS) (T : Nat → Int32) (n : Nat) : AS := (T, n, A.2.2)
abbrev wU (A : AS) (U : RD) : AS := (A.1, A.2.1, A.2.2.1, U, A.2.2.2.2)
abbrev wLs (A : AS) (l : Nat × (Nat → Nat)) : AS := (A.1, A.2.1, A.2.2.1, A.2.2.2.1, A.2.2.2.2.1, l, A.2.2.2.2.2.2)
/-! frames that the states don't see -/
theorem IsPo.b {p : Nat} (h : IsPo p) : 2 ≤ p ∧ p ≤ 45 := by
  rcases h with rfl | rfl <;> decide
theorem rcX_b {r : Nat} (h : r < 4) : 117 ≤ rcX r ∧ rcX r ≤ 148 := by
  unfold rcX
  split <;> omega
theorem PoX.fr {lo hi : Nat} {h h' : PH} {p : Nat} {P : PD} (hp : IsPo p) (hP : OkP P) (a : PoX h p P) (f : Fr lo hi h h') (hc : 88 ≤ lo) : PoX h' p P := by
  have b := hp.b
  obtain ⟨⟨-, -, w4, t4, f6, -⟩, -⟩ := hP
  obtain ⟨⟨a0, a1, a2, a3, a4, a5⟩, a6, a7, a8, a9, a10, a11⟩ := a
  exact ⟨⟨(f.i (by omega)).trans a0, (f.i (by omega)).trans a1, (f.i (by omega)).trans a2, (f.i (by omega)).trans a3, (f.i (by omega)).trans a4, (f.i (by omega)).trans a5⟩, fun w hw => (f.l (by omega)).trans (a6 w hw), fun w hw k hk => (f.i (by omega)).trans (a7 w hw k hk), fun t ht k hk => (f.i (by omega)).trans (a8 t ht k hk), fun t ht w hw k hk => (f.i (by omega)).trans (a9 t ht w hw k hk), fun t ht => ⟨(f.i (by omega)).trans (a10 t ht).1, fun z => (f.i (by omega)).trans ((a10 t ht).2 z)⟩, fun t ht k hk => (f.i (by omega)).trans (a11 t ht k hk)⟩
theorem RuX.fr {lo hi : Nat} {h h' : PH} {p : Nat} {P : PD} {U : RD} (hp : IsPo p) (hP : OkP P) (a : RuX h p P U) (f : Fr lo hi h h') (hc : 88 ≤ lo) : RuX h' p P U := by
  have b := hp.b
  obtain ⟨⟨-, -, w4, t4, f6, -⟩, -⟩ := hP
  exact fun t ht => ⟨(f.i (by omega)).trans (a t ht).1, (f.i (by omega)).trans (a t ht).2⟩
theorem RnX.fr {lo hi : Nat} {h h' : PH} {c : Nat} {P : PD} {R : Nat → Nat} {W : Nat → Nat → Nat} {s : Nat} (a : RnX h c P R W s) (f : Fr lo hi h h') (hc : hi < c ∨ c + 9 < lo) : RnX h' c P R W s :=
  ⟨(f.i (by omega)).trans a.1, fun z => ⟨(f.i (by omega)).trans (a.2 z).1, (f.i (by omega)).trans (a.2 z).2.1, (f.i (by omega)).trans (a.2 z).2.2.1, (f.l (by omega)).trans (a.2 z).2.2.2.1, fun t ht i hi => (f.i (by omega)).trans ((a.2 z).2.2.2.2 t ht i hi)⟩⟩
/-- cells 92 .. 102 (Outlook, Pair) are not told of -/
theorem XI.fr {lo hi : Nat} {h h' : PH} {p : Nat} {A : AS} (a : XI h p A) (hW : WF A) (f : Fr lo hi h h') (hl : 92 ≤ lo) (hh : hi ≤ 102) : XI h' p A := by
  obtain ⟨⟨a1, a2, a3⟩, ⟨a4, a5⟩, a6, a7, ⟨a8, a9⟩, ⟨a10, a11⟩, a12⟩ := a
  exact ⟨⟨a1, f.r.trans a2, f.r.trans a3⟩, ⟨fun i hi => (f.i (by omega)).trans (a4 i hi), (f.i (by omega)).trans a5⟩, a6.fr a1 hW.2.2.1 f (by omega), a7.fr a1 hW.2.2.1 f (by omega), ⟨(f.i (by omega)).trans a8, (f.i (by omega)).trans a9⟩, ⟨(f.i (by omega)).trans a10, fun z t ht => (f.i (by omega)).trans (a11 z t ht)⟩, fun r hr => by
    have := rcX_b hr
    exact (a12 r hr).fr f (by omega)⟩
/-- the model's cells that are not told of -/
def MFr (h h' : PH) : Prop := (∀ c, c ≠ 158 → (c < 173 ∨ 183 < c ∨ c = 178) → h'.1 c = h.1 c ∧ h'.2.1 c = h.2.1 c) ∧ (∀ k, (k = 1 ∨ k = 8 ∨ k = 9 ∨ k = 23 ∨ k = 35 ∨ k = 42) → h'.1 158 k = h.1 158 k) ∧ h'.2.2 = h.2.2 ∧ (∀ c, 186 < c → h'.1 c = h.1 c ∧ h'.2.1 c = h.2.1 c)
theorem MFr.rf {h : PH} : MFr h h := ⟨fun _ _ _ => ⟨rfl, rfl⟩, fun _ _ => rfl, rfl, fun _ _ => ⟨rfl, rfl⟩⟩
theorem MFr.tr {h h1 h2 : PH} (a : MFr h h1) (b : MFr h1 h2) : MFr h h2 := ⟨fun c x y => ⟨((b.1 c x y).1).trans (a.1 c x y).1, ((b.1 c x y).2).trans (a.1 c x y).2⟩, fun k hk => (b.2.1 k hk).trans (a.2.1 k hk), b.2.2.1.trans a.2.2.1, fun c x => ⟨((b.2.2.2 c x).1).trans (a.2.2.2 c x).1, ((b.2.2.2 c x).2).trans (a.2.2.2 c x).2⟩⟩
theorem MFr.of {h h' : PH} (f : FG h h') : MFr h h' := ⟨fun c x y => f.1 c x (by omega) (by omega) (by omega), fun k hk => f.2.1 k (by omega), f.2.2.2, fun c x => f.1 c (by omega) (by omega) (by omega) (by omega)⟩
theorem MFr.i {h h' : PH} (a : MFr h h') {c k : Nat} (h1 : c ≠ 158) (h2 : c < 173 ∨ 183 < c ∨ c = 178) : h'.1 c k = h.1 c k := congrFun (a.1 c h1 h2).1 k
theorem MFr.l {h h' : PH} (a : MFr h h') {c k : Nat} (h1 : c ≠ 158) (h2 : c < 173 ∨ 183 < c ∨ c = 178) : h'.2.1 c k = h.2.1 c k := congrFun (a.1 c h1 h2).2 k
theorem MFr.g {h h' : PH} (a : MFr h h') (hG : GR h.2.2) : GR h'.2.2 := by rw [a.2.2.1]; exact hG
theorem MFr.fr {h h' : PH} (a : MFr h h') : Fr 158 186 h h' := ⟨fun c hc => by
  rcases hc with z | z
  · exact a.1 c (by omega) (by omega)
  · exact a.2.2.2 c z, a.2.2.1⟩
theorem MFr.sl {h : PH} {c k : Nat} {x : Int64} (h1 : 173 ≤ c) (h2 : c ≤ 183) (h3 : c ≠ 178) : MFr h (sL h c k x) := ⟨fun a x1 x2 => ⟨rfl, rWL_c (by omega)⟩, fun _ _ => rfl, rfl, fun a x1 => ⟨rfl, rWL_c (by omega)⟩⟩
theorem MFr.si {h : PH} {c k : Nat} {x : Int32} (h1 : 173 ≤ c) (h2 : c ≤ 183) (h3 : c ≠ 178) : MFr h (sI h c k x) := ⟨fun a x1 x2 => ⟨rW_c (by omega), rfl⟩, fun _ _ => congrFun (rW_c (by omega)) _, rfl, fun a x1 => ⟨rW_c (by omega), rfl⟩⟩
theorem MFr.f {h : PH} {k : Nat} {x : Int32} (hk : ¬ (k = 1 ∨ k = 8 ∨ k = 9 ∨ k = 23 ∨ k = 35 ∨ k = 42)) : MFr h (sI h 158 k x) := ⟨fun a x1 x2 => ⟨rW_c x1, rfl⟩, fun j hj => rI_k (by omega), rfl, fun a x1 => ⟨rW_c (by omega), rfl⟩⟩
theorem PoM.mq {h h' : PH} {P : PD} (a : PoM h P) (f : MFr h h') : PoM h' P := by
  obtain ⟨a0, a1, a2, a3, a4, a5, a6⟩ := a
  exact ⟨fun k hk => (f.i (by decide) (by decide)).trans (a0 k hk), (f.2.1 23 (by decide)).trans a1, fun w hw k hk => (f.i (by decide) (by decide)).trans (a2 w hw k hk), fun w hw k hk => (f.i (by decide) (by decide)).trans (a3 w hw k hk), fun t ht w hw k hk => (f.i (by decide) (by decide)).trans (a4 t ht w hw k hk), fun t ht => ⟨(f.i (by decide) (by decide)).trans (a5 t ht).1, fun z => (f.i (by decide) (by decide)).trans ((a5 t ht).2 z)⟩, fun w hw k hk => (f.i (by decide) (by decide)).trans (a6 w hw k hk)⟩
theorem RuM.mq {h h' : PH} {P : PD} {U : RD} (a : RuM h P U) (f : MFr h h') : RuM h' P U := fun t ht => ⟨(f.i (by decide) (by decide)).trans (a t ht).1, (f.i (by decide) (by decide)).trans (a t ht).2⟩
theorem RnM.mq {h h' : PH} {b : Nat} {P : PD} {R : Nat → Nat} {W : Nat → Nat → Nat} (a : RnM h b P R W) (f : MFr h h') : RnM h' b P R W := ⟨(f.i (by decide) (by decide)).trans a.1, (f.i (by decide) (by decide)).trans a.2.1, (f.i (by decide) (by decide)).trans a.2.2.1, fun t ht => ⟨fun i hi => (f.i (by decide) (by decide)).trans ((a.2.2.2 t ht).1 i hi), (f.i (by decide) (by decide)).trans (a.2.2.2 t ht).2⟩⟩
theorem MI.mq {h h' : PH} {A : AS} (a : MI h A) (f : MFr h h') : MI h' A := by
  obtain ⟨⟨a1, a2⟩, a3, a4, ⟨a5, a6⟩, ⟨a7, a8⟩, ⟨a9, a10, a11⟩, a12⟩ := a
  exact ⟨⟨fun i hi => (f.i (by decide) (by decide)).trans (a1 i hi), (f.2.1 1 (by decide)).trans a2⟩, a3.mq f, a4.mq f, ⟨(f.2.1 8 (by decide)).trans a5, (f.2.1 9 (by decide)).trans a6⟩, ⟨(f.2.1 42 (by decide)).trans a7, fun z t ht => (f.i (by decide) (by decide)).trans (a8 z t ht)⟩, ⟨(f.i (by decide) (by decide)).trans a9, fun r hr => (f.i (by decide) (by decide)).trans (a10 r hr), fun r hr z => ⟨(a11 r hr z).1.mq f, (f.l (by decide) (by decide)).trans (a11 r hr z).2.1, (f.i (by decide) (by decide)).trans (a11 r hr z).2.2⟩⟩, (f.2.1 35 (by decide)).trans a12⟩
theorem MP.mq {h h' : PH} {A : AS} (a : MI h A) (f : MFr h h') : MP h h' A := ⟨a.mq f, f.fr⟩
/-! bytes -/
theorem byt_nar (x : Int32) : (vp_nar .byte x).toInt8.toInt32 = vp_nar .byte x := by
  show (x.toInt8.toInt32).toInt8.toInt32 = x.toInt8.toInt32
  rw [Int8.toInt8_toInt32]
