/-! ===== runs ===== -/
abbrev wRn (A : AS) (r0 : Nat) (R : Nat → Nat) (W : Nat → Nat → Nat) (s : Nat) : AS := (A.1, A.2.1, A.2.2.1, A.2.2.2.1, A.2.2.2.2.1, A.2.2.2.2.2.1, (fun r => if r = r0 then R else aR A r), (fun r => if r = r0 then W else aW A r), (fun r => if r = r0 then s else aS A r))
theorem WF.run {A : AS} {r0 : Nat} {R : Nat → Nat} {W : Nat → Nat → Nat} {s : Nat} (a : WF A) (b : OkRun (aP A) R W s) : WF (wRn A r0 R W s) := by
  obtain ⟨a1, a2, a3, a4, a5, a6⟩ := a
  refine ⟨a1, a2, a3, a4, a5, fun r hr => ?_⟩
  show OkRun (aP A) (if r = r0 then R else aR A r) (if r = r0 then W else aW A r) (if r = r0 then s else aS A r)
  by_cases q : r = r0
  · rw [if_pos q, if_pos q, if_pos q]; exact b
  · rw [if_neg q, if_neg q, if_neg q]; exact a6 r hr
theorem WF.rn {A : AS} (a : WF A) {r : Nat} (hr : r < 4) : OkRun (aP A) (aR A r) (aW A r) (aS A r) := a.2.2.2.2.2 r hr
theorem XI.rn {h : PH} {p : Nat} {A : AS} (a : XI h p A) : RnX h 117 (aP A) (aR A 0) (aW A 0) (aS A 0) := a.2.2.2.2.2.2 0 (by decide)
theorem rcX_1 {r : Nat} : rcX (r + 1) = 128 + 10 * r := by
  unfold rcX
  rw [if_neg (by omega)]
  omega
theorem XI.sl {h : PH} {p : Nat} {A : AS} (a : XI h p A) {r : Nat} (hr : r < 3) : RnX h (128 + 10 * r) (aP A) (aR A (r + 1)) (aW A (r + 1)) (aS A (r + 1)) := by
  have b := a.2.2.2.2.2.2 (r + 1) (by omega)
  rw [rcX_1] at b
  exact b
theorem rcX_ne {r r0 : Nat} (hr : r < 4) (h0 : r0 < 4) (q : r ≠ r0) : rcX r0 + 9 < rcX r ∨ rcX r + 9 < rcX r0 := by
  have e : ∀ r, r < 4 → rcX r = if r = 0 then 117 else 118 + 10 * r := fun r _ => rfl
  rw [e r hr, e r0 h0]
  (repeat' split) <;> omega
theorem XI.run {h h' : PH} {p : Nat} {A : AS} {r0 : Nat} {R : Nat → Nat} {W : Nat → Nat → Nat} {s : Nat} (a : XI h p A) (hW : WF A) (hr : r0 < 4) (f : Fr (rcX r0) (rcX r0 + 9) h h') (b : RnX h' (rcX r0) (aP A) R W s) : XI h' p (wRn A r0 R W s) := by
  have hb := rcX_b hr
  obtain ⟨⟨a1, a2, a3⟩, ⟨a4, a5⟩, a6, a7, ⟨a8, a9⟩, ⟨a10, a11⟩, a12⟩ := a
  refine ⟨⟨a1, f.r.trans a2, f.r.trans a3⟩, ⟨fun i hi => (f.i (by omega)).trans (a4 i hi), (f.i (by omega)).trans a5⟩, a6.fr a1 hW.2.2.1 f (by omega), a7.fr a1 hW.2.2.1 f (by omega), ⟨(f.i (by omega)).trans a8, (f.i (by omega)).trans a9⟩, ⟨(f.i (by omega)).trans a10, fun z t ht => (f.i (by omega)).trans (a11 z t ht)⟩, fun r h4 => ?_⟩
  show RnX h' (rcX r) (aP A) (if r = r0 then R else aR A r) (if r = r0 then W else aW A r) (if r = r0 then s else aS A r)
  by_cases q : r = r0
  · rw [if_pos q, if_pos q, if_pos q, q]; exact b
  · rw [if_neg q, if_neg q, if_neg q]
    exact (a12 r h4).fr f (rcX_ne h4 hr q)
/-- the model: one run's cells alone -/
def FRm (r0 : Nat) (h h' : PH) : Prop := (∀ c, c ≠ 158 → c ≠ 184 → c ≠ 185 → c ≠ 186 → (c < 173 ∨ 183 < c ∨ c = 178) → h'.1 c = h.1 c ∧ h'.2.1 c = h.2.1 c) ∧ (∀ k, (k = 1 ∨ k = 8 ∨ k = 9 ∨ k = 23 ∨ k = 35 ∨ k = 42) → h'.1 158 k = h.1 158 k) ∧ (∀ k, (k < 32 * r0 ∨ 32 * r0 + 32 ≤ k) → h'.1 184 k = h.1 184 k) ∧ (∀ k, k ≠ r0 → h'.2.1 185 k = h.2.1 185 k) ∧ (∀ k, k + 1 ≠ r0 → h'.1 186 k = h.1 186 k) ∧ h'.2.2 = h.2.2
theorem FRm.rf {r0 : Nat} {h : PH} : FRm r0 h h := ⟨fun _ _ _ _ _ _ => ⟨rfl, rfl⟩, fun _ _ => rfl, fun _ _ => rfl, fun _ _ => rfl, fun _ _ => rfl, rfl⟩
theorem FRm.tr {r0 : Nat} {h h1 h2 : PH} (a : FRm r0 h h1) (b : FRm r0 h1 h2) : FRm r0 h h2 := ⟨fun c x1 x2 x3 x4 x5 => ⟨((b.1 c x1 x2 x3 x4 x5).1).trans (a.1 c x1 x2 x3 x4 x5).1, ((b.1 c x1 x2 x3 x4 x5).2).trans (a.1 c x1 x2 x3 x4 x5).2⟩, fun k hk => (b.2.1 k hk).trans (a.2.1 k hk), fun k hk => (b.2.2.1 k hk).trans (a.2.2.1 k hk), fun k hk => (b.2.2.2.1 k hk).trans (a.2.2.2.1 k hk), fun k hk => (b.2.2.2.2.1 k hk).trans (a.2.2.2.2.1 k hk), b.2.2.2.2.2.trans a.2.2.2.2.2⟩
theorem FRm.g {r0 : Nat} {h h' : PH} (a : FRm r0 h h') (hG : GR h.2.2) : GR h'.2.2 := by rw [a.2.2.2.2.2]; exact hG
theorem FRm.i {r0 : Nat} {h h' : PH} (a : FRm r0 h h') {c k : Nat} (x1 : c ≠ 158) (x2 : c ≠ 184) (x3 : c ≠ 185) (x4 : c ≠ 186) (x5 : c < 173 ∨ 183 < c ∨ c = 178) : h'.1 c k = h.1 c k := congrFun (a.1 c x1 x2 x3 x4 x5).1 k
theorem FRm.fr {r0 : Nat} {h h' : PH} (a : FRm r0 h h') : Fr 158 186 h h' := ⟨fun c hc => a.1 c (by omega) (by omega) (by omega) (by omega) (by omega), a.2.2.2.2.2⟩
theorem FRm.w {r0 k : Nat} {h : PH} {x : Int32} (h1 : 32 * r0 ≤ k) (h2 : k < 32 * r0 + 32) : FRm r0 h (sI h 184 k x) := ⟨fun c _ x2 _ _ _ => ⟨rW_c x2, rfl⟩, fun _ _ => rI_c (by decide), fun j hj => rI_k (by omega), fun _ _ => rfl, fun _ _ => rI_c (by decide), rfl⟩
theorem FRm.s {r0 : Nat} {h : PH} {x : Int64} : FRm r0 h (sL h 185 r0 x) := ⟨fun c _ _ x3 _ _ => ⟨rfl, rWL_c x3⟩, fun _ _ => rfl, fun _ _ => rfl, fun k hk => rL_k hk, fun _ _ => rfl, rfl⟩
theorem FRm.k {k : Nat} {h : PH} {x : Int32} : FRm (k + 1) h (sI h 186 k x) := ⟨fun c _ _ _ x4 _ => ⟨rW_c x4, rfl⟩, fun _ _ => rI_c (by decide), fun _ _ => rI_c (by decide), fun _ _ => rfl, fun j hj => rI_k (by omega), rfl⟩
theorem FRm.q {r0 : Nat} {h h' : PH} (a : MFr h h') : FRm r0 h h' := ⟨fun c x1 _ _ _ x5 => a.1 c x1 x5, a.2.1, fun k _ => a.i (by decide) (by decide), fun k _ => a.l (by decide) (by decide), fun k _ => a.i (by decide) (by decide), a.2.2.1⟩
theorem MI.run {h h' : PH} {A : AS} {r0 : Nat} {R : Nat → Nat} {W : Nat → Nat → Nat} {s : Nat} (a : MI h A) (hT : aP A 0 3 0 ≤ 4) (f : FRm r0 h h') (b : R 0 = 1 → RnM h' (32 * r0) (aP A) R W ∧ h'.2.1 185 r0 = lN s ∧ h'.1 184 (32 * r0) = nI 1) (c0 : r0 = 0 → h'.1 184 0 = nI (R 0)) (c1 : ∀ k, r0 = k + 1 → h'.1 186 k = nI (R 0)) : MI h' (wRn A r0 R W s) := by
  obtain ⟨⟨a1, a2⟩, ⟨p0, p1, p2, p3, p4, p5, p6⟩, a4, ⟨a5, a6⟩, ⟨a7, a8⟩, ⟨a9, a10, a11⟩, a12⟩ := a
  have fi : ∀ {c k : Nat}, c ≠ 158 → c ≠ 184 → c ≠ 185 → c ≠ 186 → (c < 173 ∨ 183 < c ∨ c = 178) → h'.1 c k = h.1 c k := fun x1 x2 x3 x4 x5 => f.i x1 x2 x3 x4 x5
  refine ⟨⟨fun i hi => (fi (by decide) (by decide) (by decide) (by decide) (by decide)).trans (a1 i hi), (f.2.1 1 (by decide)).trans a2⟩, ⟨fun k hk => (fi (by decide) (by decide) (by decide) (by decide) (by decide)).trans (p0 k hk), (f.2.1 23 (by decide)).trans p1, fun w hw k hk => (fi (by decide) (by decide) (by decide) (by decide) (by decide)).trans (p2 w hw k hk), fun w hw k hk => (fi (by decide) (by decide) (by decide) (by decide) (by decide)).trans (p3 w hw k hk), fun t ht w hw k hk => (fi (by decide) (by decide) (by decide) (by decide) (by decide)).trans (p4 t ht w hw k hk), fun t ht => ⟨(fi (by decide) (by decide) (by decide) (by decide) (by decide)).trans (p5 t ht).1, fun z => (fi (by decide) (by decide) (by decide) (by decide) (by decide)).trans ((p5 t ht).2 z)⟩, fun w hw k hk => (fi (by decide) (by decide) (by decide) (by decide) (by decide)).trans (p6 w hw k hk)⟩, fun t ht => ⟨(fi (by decide) (by decide) (by decide) (by decide) (by decide)).trans (a4 t ht).1, (fi (by decide) (by decide) (by decide) (by decide) (by decide)).trans (a4 t ht).2⟩, ⟨(f.2.1 8 (by decide)).trans a5, (f.2.1 9 (by decide)).trans a6⟩, ⟨(f.2.1 42 (by decide)).trans a7, fun z t ht => (fi (by decide) (by decide) (by decide) (by decide) (by decide)).trans (a8 z t ht)⟩, ⟨?_, fun k hk => ?_, fun r hr => ?_⟩, (f.2.1 35 (by decide)).trans a12⟩
  · show h'.1 184 0 = nI ((if 0 = r0 then R else aR A 0) 0)
    by_cases q : 0 = r0
    · rw [if_pos q]; exact c0 q.symm
    · rw [if_neg q]; exact (f.2.2.1 0 (by omega)).trans a9
  · show h'.1 186 k = nI ((if k + 1 = r0 then R else aR A (k + 1)) 0)
    by_cases q : k + 1 = r0
    · rw [if_pos q]; exact c1 k q.symm
    · rw [if_neg q]; exact (f.2.2.2.2.1 k q).trans (a10 k hk)
  · show (if r = r0 then R else aR A r) 0 = 1 → RnM h' (32 * r) (aP A) (if r = r0 then R else aR A r) (if r = r0 then W else aW A r) ∧ h'.2.1 185 r = lN (if r = r0 then s else aS A r) ∧ h'.1 184 (32 * r) = nI 1
    by_cases q : r = r0
    · rw [if_pos q, if_pos q, if_pos q, q]; exact b
    · rw [if_neg q, if_neg q, if_neg q]
      intro z
      obtain ⟨⟨e1, e2, e3, e4⟩, e5, e6⟩ := a11 r hr z
      have fk : ∀ {j : Nat}, j < 32 → h'.1 184 (32 * r + j) = h.1 184 (32 * r + j) := fun hj => f.2.2.1 _ (by omega)
      have fl : ∀ {j m : Nat}, m = 32 * r + j → j < 32 → h'.1 184 m = h.1 184 m := fun hm hj => by rw [hm]; exact fk hj
      refine ⟨⟨(fk (by decide)).trans e1, (fk (by decide)).trans e2, (fk (by decide)).trans e3, fun t ht => ⟨fun i hi => ?_, ?_⟩⟩, (f.2.2.2.1 r q).trans e5, (fk (j := 0) (by decide)).trans e6⟩
      · have ht4 : t < 4 := Nat.lt_of_lt_of_le ht hT
        exact (fl (j := 8 + 4 * i + t) (by omega) (by omega)).trans ((e4 t ht).1 i hi)
      · have ht4 : t < 4 := Nat.lt_of_lt_of_le ht hT
        exact (fl (j := 4 + t) (by omega) (by omega)).trans (e4 t ht).2
theorem MI.rn {h : PH} {A : AS} (a : MI h A) (z : aR A 0 0 = 1) : RnM h 0 (aP A) (aR A 0) (aW A 0) ∧ h.2.1 185 0 = lN (aS A 0) := ⟨(a.2.2.2.2.2.1.2.2 0 (by decide) z).1, (a.2.2.2.2.2.1.2.2 0 (by decide) z).2.1⟩
theorem MI.sl {h : PH} {A : AS} (a : MI h A) {r : Nat} (hr : r < 3) (z : aR A (r + 1) 0 = 1) : RnM h (32 * (r + 1)) (aP A) (aR A (r + 1)) (aW A (r + 1)) ∧ h.2.1 185 (r + 1) = lN (aS A (r + 1)) ∧ h.1 184 (32 * (r + 1)) = nI 1 := a.2.2.2.2.2.1.2.2 (r + 1) (by omega) z
theorem WF.on {A : AS} (a : WF A) {r : Nat} (hr : r < 4) : aR A r 0 < 2 := (a.rn hr).1
/-! answers -/
def listedA (A : AS) (t : Int32) : Int32 := if (aL A).1 = 1 ∧ inR t (aP A 0 3 0) then nI ((aL A).2 (cl t)) else -1
def stockA (A : AS) (t i : Int32) : Int32 := if inR t (aP A 0 3 0) ∧ inR i 6 then (if aR A 0 0 = 1 then rwV (cl i) (aW A 0 (cl i) (cl t)) else -1) else -2
def jd (P : PD) (R : Nat → Nat) (W : Nat → Nat → Nat) : Nat → Int32
  | 0 => nI 0
  | t + 1 => if P 0 0 0 ≤ R 2 then jd P R W t + ((nI (P 2 t 2 * W 1 t) - nI (P 2 t 3 * W 2 t)) - nI (P 2 t 1 * W 6 t)) + nI (P 2 t 4 * W 0 t) else jd P R W t + ((nI (P 2 t 2 * W 1 t) - nI (P 2 t 3 * W 2 t)) - nI (P 2 t 1 * W 6 t))
theorem jd_1 {P : PD} {R : Nat → Nat} {W : Nat → Nat → Nat} {t : Nat} (h : P 0 0 0 ≤ R 2) : jd P R W (t + 1) = jd P R W t + ((nI (P 2 t 2 * W 1 t) - nI (P 2 t 3 * W 2 t)) - nI (P 2 t 1 * W 6 t)) + nI (P 2 t 4 * W 0 t) := if_pos h
theorem jd_0 {P : PD} {R : Nat → Nat} {W : Nat → Nat → Nat} {t : Nat} (h : ¬ P 0 0 0 ≤ R 2) : jd P R W (t + 1) = jd P R W t + ((nI (P 2 t 2 * W 1 t) - nI (P 2 t 3 * W 2 t)) - nI (P 2 t 1 * W 6 t)) := if_neg h
def ranA (A : AS) (x : Int32) : Int32 := if aR A 0 0 = 1 then (if x = 0 then nI (aR A 0 2) else if x = nI 1 then hlp (aR A 0 3) else if x = nI 2 then jd (aP A) (aR A 0) (aW A 0) (aP A 0 3 0) else -1000000) else -1000000
def keepA (A : AS) (k : Int32) : Int32 := if inR k 3 then (if aR A 0 0 = 1 then nI (aR A 0 2) else -4) else -2
def keepS (A : AS) (k : Int32) : AS := if inR k 3 ∧ aR A 0 0 = 1 then wRn A (cl k + 1) (aR A 0) (aW A 0) (aS A 0) else A
def takeA (A : AS) (k : Int32) : Int32 := if inR k 3 then (if aR A (cl k + 1) 0 = 1 then nI (aR A (cl k + 1) 2) else -4) else -2
def takeS (A : AS) (k : Int32) : AS := if inR k 3 ∧ aR A (cl k + 1) 0 = 1 then wRn A 0 (aR A (cl k + 1)) (aW A (cl k + 1)) (aS A (cl k + 1)) else A
