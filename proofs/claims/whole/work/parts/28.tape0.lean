/-! ===== the tape ===== -/
def by8 (x : Int32) (s : Nat) : Int32 := (x >>> nI s).toInt8.toInt32
theorem by8_m {x : Int32} {s : Nat} (hs : s = 0 ∨ s = 8 ∨ s = 16 ∨ s = 24) : vp_nar .byte ((x >>> (nI s &&& 31)).toInt8.toInt32) = by8 x s := by
  show ((x >>> (nI s &&& 31)).toInt8.toInt32).toInt8.toInt32 = by8 x s
  rw [Int8.toInt8_toInt32]
  unfold by8
  rcases hs with rfl | rfl | rfl | rfl <;> rfl
theorem by8_bits {x : Int32} (s : Nat) (hs : s = 0 ∨ s = 8 ∨ s = 16 ∨ s = 24) : (x.toUInt32 >>> ((nI s).toUInt32 &&& Int32.toUInt32 31)).toInt32.toInt8 = (x >>> nI s).toInt8 := by
  apply Int8.toBitVec_inj.mp
  apply BitVec.eq_of_getLsbD_eq
  intro i hi
  have e1 : ∀ s, s < 32 → (nI s).toUInt32 &&& Int32.toUInt32 31 = UInt32.ofNat s := by decide
  have e2 : ∀ s, s < 32 → ((nI s).toBitVec.smod 32).toNat = s := by decide
  have hs2 : s < 32 := by omega
  rw [e1 s hs2]
  simp only [Int32.toBitVec_toInt8, UInt32.toBitVec_toInt32, UInt32.toBitVec_shiftRight, Int32.toBitVec_shiftRight, BitVec.getLsbD_signExtend, BitVec.getLsbD_setWidth, Int32.toBitVec_toUInt32, BitVec.getLsbD_sshiftRight, BitVec.getLsbD_ushiftRight, BitVec.sshiftRight_eq', BitVec.ushiftRight_eq']
  have e3 : ∀ s, s < 32 → ((UInt32.ofNat s).toBitVec % 32).toNat = s := by decide
  rw [e2 s hs2, e3 s hs2, if_pos (by omega), if_pos (by omega), if_pos (by omega), decide_eq_false (by omega : ¬ 32 ≤ i)]
  rfl
theorem by8_x {x : Int32} {s : Nat} (hs : s = 0 ∨ s = 8 ∨ s = 16 ∨ s = 24) : vp_nar .byte ((x.toUInt32 >>> ((nI s).toUInt32 &&& Int32.toUInt32 31)).toInt32.toInt8.toInt32) = by8 x s := by
  show ((x.toUInt32 >>> ((nI s).toUInt32 &&& Int32.toUInt32 31)).toInt32.toInt8.toInt32).toInt8.toInt32 = by8 x s
  rw [Int8.toInt8_toInt32, by8_bits s hs]
  rfl
def pt4 (f : Nat → Int32) (n : Nat) (x : Int32) : Nat → Int32 := upd (upd (upd (upd f n (by8 x 24)) (n + 1) (by8 x 16)) (n + 1 + 1) (by8 x 8)) (n + 1 + 1 + 1) (by8 x 0)
/-- tapes: the object c0 (its field 1 the size) and the bytes' cell c1 -/
def FT (c0 c1 : Nat) (h h' : PH) : Prop := (∀ c, c ≠ c0 → c ≠ c1 → h'.1 c = h.1 c) ∧ (∀ j, j ≠ 1 → h'.1 c0 j = h.1 c0 j) ∧ h'.2 = h.2
theorem FT.rf {c0 c1 : Nat} {h : PH} : FT c0 c1 h h := ⟨fun _ _ _ => rfl, fun _ _ => rfl, rfl⟩
theorem FT.tr {c0 c1 : Nat} {h h1 h2 : PH} (a : FT c0 c1 h h1) (b : FT c0 c1 h1 h2) : FT c0 c1 h h2 := ⟨fun c x y => (b.1 c x y).trans (a.1 c x y), fun j hj => (b.2.1 j hj).trans (a.2.1 j hj), b.2.2.trans a.2.2⟩
theorem FT.a {c0 c1 : Nat} {h : PH} {x : Int32} : FT c0 c1 h (sI h c0 1 x) := ⟨fun c z _ => rW_c z, fun j hj => rI_k hj, rfl⟩
theorem FT.b {c0 c1 k : Nat} {h : PH} {x : Int32} (q : c0 ≠ c1) : FT c0 c1 h (sI h c1 k x) := ⟨fun c _ z => rW_c z, fun j _ => rI_c q, rfl⟩
theorem FT.g {c0 c1 : Nat} {h h' : PH} (a : FT c0 c1 h h') (hG : GR h.2.2) : GR h'.2.2 := by rw [a.2.2]; exact hG
theorem FT.fr {c0 c1 lo hi : Nat} {h h' : PH} (a : FT c0 c1 h h') (h1 : lo ≤ c0 ∧ c0 ≤ hi) (h2 : lo ≤ c1 ∧ c1 ≤ hi) : Fr lo hi h h' := ⟨fun c hc => ⟨a.1 c (by omega) (by omega), by rw [a.2.2]⟩, by rw [a.2.2]⟩
/-- one byte laid, the size one more -/
def TP (c0 c1 : Nat) (h h' : PH) (f : Nat → Int32) (n : Nat) : Prop := h'.1 c1 = f ∧ h'.1 c0 1 = nI n ∧ FT c0 c1 h h'
theorem TP.st {c0 c1 : Nat} {h h' : PH} {f : Nat → Int32} {n k : Nat} {x y : Int32} (q : c0 ≠ c1) (a : TP c0 c1 h h' f n) (hx : x = y) : TP c0 c1 h (sI (sI h' c1 k x) c0 1 (nI (n + 1))) (upd f k y) (n + 1) := by
  subst hx
  refine ⟨?_, rI_s, a.2.2.tr ((FT.b q).tr FT.a)⟩
  rw [rW_c q.symm, rW_s, a.1]
theorem rW_upd {h : PH} {c k : Nat} {x : Int32} : (sI h c k x).1 c = upd (h.1 c) k x := rW_s
def pt20 (f : Nat → Int32) (n : Nat) (a b c d e : Int32) : Nat → Int32 := pt4 (pt4 (pt4 (pt4 (pt4 f n a) (n + 1 + 1 + 1 + 1) b) (n + 1 + 1 + 1 + 1 + 1 + 1 + 1 + 1) c) (n + 1 + 1 + 1 + 1 + 1 + 1 + 1 + 1 + 1 + 1 + 1 + 1) d) (n + 1 + 1 + 1 + 1 + 1 + 1 + 1 + 1 + 1 + 1 + 1 + 1 + 1 + 1 + 1 + 1) e
theorem upd_cg {f g : Nat → Int32} {k i : Nat} {x : Int32} (h : f i = g i) : upd f k x i = upd g k x i := by
  unfold upd
  split
  · rfl
  · exact h
theorem pt4_cg {f g : Nat → Int32} {n i : Nat} {x : Int32} (h : f i = g i) : pt4 f n x i = pt4 g n x i := upd_cg (upd_cg (upd_cg (upd_cg h)))
theorem pt20_cg {f g : Nat → Int32} {n i : Nat} {a b c d e : Int32} (h : f i = g i) : pt20 f n a b c d e i = pt20 g n a b c d e i := pt4_cg (pt4_cg (pt4_cg (pt4_cg (pt4_cg h))))
def isB (f : Nat → Int32) : Prop := ∀ i, (f i).toInt8.toInt32 = f i
theorem upd_B {f : Nat → Int32} {k : Nat} {x : Int32} (h : isB f) (hx : x.toInt8.toInt32 = x) : isB (upd f k x) := by
  intro i
  unfold upd
  split
  · exact hx
  · exact h i
theorem by8_B {x : Int32} {s : Nat} : (by8 x s).toInt8.toInt32 = by8 x s := by
  unfold by8
  rw [Int8.toInt8_toInt32]
theorem pt4_B {f : Nat → Int32} {n : Nat} {x : Int32} (h : isB f) : isB (pt4 f n x) := upd_B (upd_B (upd_B (upd_B h by8_B) by8_B) by8_B) by8_B
theorem pt20_B {f : Nat → Int32} {n : Nat} {a b c d e : Int32} (h : isB f) : isB (pt20 f n a b c d e) := pt4_B (pt4_B (pt4_B (pt4_B (pt4_B h))))
theorem XI.tape {h h' : PH} {p : Nat} {A : AS} {T T2 : Nat → Int32} {n : Nat} (a : XI h p A) (hW : WF A) (t : TP 0 1 h h' T n) (e : ∀ i, i < 900 → T i = T2 i) : XI h' p (wT A T2 n) := by
  obtain ⟨⟨a1, a2, a3⟩, ⟨a4, a5⟩, a6, a7, ⟨a8, a9⟩, ⟨a10, a11⟩, a12⟩ := a
  obtain ⟨t1, t2, t3⟩ := t
  have b := a1.b
  obtain ⟨⟨-, -, w4, t4, f6, -⟩, -⟩ := hW.2.2.1
  have fi : ∀ {c k : Nat}, 2 ≤ c → h'.1 c k = h.1 c k := fun hc => congrFun (t3.1 _ (by omega) (by omega)) _
  have fl : ∀ {c k : Nat}, h'.2.1 c k = h.2.1 c k := fun {c k} => by rw [t3.2.2]
  obtain ⟨⟨p0, p1, p2, p3, p4, p5⟩, p6, p7, p8, p9, p10, p11⟩ := a6
  refine ⟨⟨a1, by rw [t3.2.2]; exact a2, by rw [t3.2.2]; exact a3⟩, ⟨fun i hi => by rw [t1]; exact e i hi, t2⟩, ⟨⟨(fi (by omega)).trans p0, (fi (by omega)).trans p1, (fi (by omega)).trans p2, (fi (by omega)).trans p3, (fi (by omega)).trans p4, (fi (by omega)).trans p5⟩, fun w hw => fl.trans (p6 w hw), fun w hw k hk => (fi (by omega)).trans (p7 w hw k hk), fun t ht k hk => (fi (by omega)).trans (p8 t ht k hk), fun t ht w hw k hk => (fi (by omega)).trans (p9 t ht w hw k hk), fun t ht => ⟨(fi (by omega)).trans (p10 t ht).1, fun z => (fi (by omega)).trans ((p10 t ht).2 z)⟩, fun t ht k hk => (fi (by omega)).trans (p11 t ht k hk)⟩, fun t ht => ⟨(fi (by omega)).trans (a7 t ht).1, (fi (by omega)).trans (a7 t ht).2⟩, ⟨(fi (by omega)).trans a8, (fi (by omega)).trans a9⟩, ⟨(fi (by omega)).trans a10, fun z t ht => (fi (by omega)).trans (a11 z t ht)⟩, fun r hr => ?_⟩
  have := rcX_b hr
  have a := a12 r hr
  exact ⟨(fi (by omega)).trans a.1, fun z => ⟨(fi (by omega)).trans (a.2 z).1, (fi (by omega)).trans (a.2 z).2.1, (fi (by omega)).trans (a.2 z).2.2.1, fl.trans (a.2 z).2.2.2.1, fun t ht i hi => (fi (by omega)).trans ((a.2 z).2.2.2.2 t ht i hi)⟩⟩
theorem MI.tape {h h' : PH} {A : AS} {T T2 : Nat → Int32} {n : Nat} (a : MI h A) (t : TP 158 159 h h' T n) (e : ∀ i, i < 900 → T i = T2 i) : MI h' (wT A T2 n) := by
  obtain ⟨⟨a1, a2⟩, ⟨p0, p1, p2, p3, p4, p5, p6⟩, a4, ⟨a5, a6⟩, ⟨a7, a8⟩, ⟨a9, a10, a11⟩, a12⟩ := a
  obtain ⟨t1, t2, t3⟩ := t
  have fi : ∀ {c k : Nat}, 160 ≤ c → h'.1 c k = h.1 c k := fun hc => congrFun (t3.1 _ (by omega) (by omega)) _
  have fl : ∀ {c k : Nat}, h'.2.1 c k = h.2.1 c k := fun {c k} => by rw [t3.2.2]
  have f8 : ∀ {k : Nat}, k ≠ 1 → h'.1 158 k = h.1 158 k := fun hk => t3.2.1 _ hk
  exact ⟨⟨fun i hi => by rw [t1]; exact e i hi, t2⟩, ⟨fun k hk => (fi (by decide)).trans (p0 k hk), (f8 (by decide)).trans p1, fun w hw k hk => (fi (by decide)).trans (p2 w hw k hk), fun w hw k hk => (fi (by decide)).trans (p3 w hw k hk), fun t ht w hw k hk => (fi (by decide)).trans (p4 t ht w hw k hk), fun t ht => ⟨(fi (by decide)).trans (p5 t ht).1, fun z => (fi (by decide)).trans ((p5 t ht).2 z)⟩, fun w hw k hk => (fi (by decide)).trans (p6 w hw k hk)⟩, fun t ht => ⟨(fi (by decide)).trans (a4 t ht).1, (fi (by decide)).trans (a4 t ht).2⟩, ⟨(f8 (by decide)).trans a5, (f8 (by decide)).trans a6⟩, ⟨(f8 (by decide)).trans a7, fun z t ht => (fi (by decide)).trans (a8 z t ht)⟩, ⟨(fi (by decide)).trans a9, fun r hr => (fi (by decide)).trans (a10 r hr), fun r hr z => ⟨⟨(fi (by decide)).trans (a11 r hr z).1.1, (fi (by decide)).trans (a11 r hr z).1.2.1, (fi (by decide)).trans (a11 r hr z).1.2.2.1, fun t ht => ⟨fun i hi => (fi (by decide)).trans (((a11 r hr z).1.2.2.2 t ht).1 i hi), (fi (by decide)).trans ((a11 r hr z).1.2.2.2 t ht).2⟩⟩, fl.trans (a11 r hr z).2.1, (fi (by decide)).trans (a11 r hr z).2.2⟩⟩, (f8 (by decide)).trans a12⟩
