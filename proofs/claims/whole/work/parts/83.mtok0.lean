/-! ===== tokens of the model ===== -/
def stM (K : Nat) : Nat := if K = 0 then 4 else if K = 2 then 1 else if K = 3 then 2 else if K = 4 then 3 else 0
/-- a token's cells of the model alone -/
def Ms (h h' : PH) : Prop := (∀ c, c ≠ 158 → h'.1 c = h.1 c ∧ h'.2.1 c = h.2.1 c) ∧ h'.2.2 = h.2.2 ∧ (∀ k, k < 3 ∨ 7 < k → h'.1 158 k = h.1 158 k) ∧ ∀ k, k ≠ 10 → h'.2.1 158 k = h.2.1 158 k
theorem Ms.rf {h : PH} : Ms h h := ⟨fun _ _ => ⟨rfl, rfl⟩, rfl, fun _ _ => rfl, fun _ _ => rfl⟩
theorem Ms.tr {h h1 h2 : PH} (a : Ms h h1) (b : Ms h1 h2) : Ms h h2 := ⟨fun c x => ⟨(b.1 c x).1.trans (a.1 c x).1, (b.1 c x).2.trans (a.1 c x).2⟩, b.2.1.trans a.2.1, fun k x => (b.2.2.1 k x).trans (a.2.2.1 k x), fun k x => (b.2.2.2 k x).trans (a.2.2.2 k x)⟩
theorem Ms.s {h : PH} {k : Nat} {x : Int32} (hk : 3 ≤ k ∧ k ≤ 7) : Ms h (sI h 158 k x) := ⟨fun c z => ⟨rW_c z, rfl⟩, rfl, fun j z => rI_k (by omega), fun _ _ => rfl⟩
theorem Ms.sl {h : PH} {x : Int64} : Ms h (sL h 158 10 x) := ⟨fun c z => ⟨rfl, rWL_c z⟩, rfl, fun j z => rfl, fun j z => rL_k z⟩
theorem Ms.g {h h' : PH} (a : Ms h h') (hG : GR h.2.2) : GR h'.2.2 := by rw [a.2.1]; exact hG
theorem Mt.ms {h h' : PH} {T : Nat → Int32} {n : Nat} (a : Mt h T n) (f : Ms h h') : Mt h' T n := ⟨fun i hi => (congrFun (f.1 159 (by decide)).1 i).trans (a.1 i hi), (f.2.2.1 2 (by decide)).trans a.2.1, a.2.2⟩
/-- the model's token -/
def Mk (h : PH) (T : Nat → Int32) (n s : Nat) : Prop := h.1 158 3 = nI (stM (tkK T n s)) ∧ h.1 158 4 = clW (tkK T n s) (tkV T n s) ∧ h.1 158 5 = nI s ∧ h.1 158 6 = nI (tkE T n s) ∧ (tkK T n s = 2 → h.2.1 158 10 = lN (tkV T n s)) ∧ (tkK T n s = 3 → h.1 158 7 = nI (tkV T n s))
theorem tkK_w {T : Nat → Int32} {n s : Nat} (h : s < n) (hl : cLe (T s) = true) : tkK T n s = if rn cLe T n s - s ≤ 8 then 2 else 1 := by
  unfold tkK
  rw [if_neg (by omega), if_pos hl]
theorem tkK_d {T : Nat → Int32} {n s : Nat} (h : s < n) (hl : ¬ cLe (T s) = true) (hd : cDi (T s) = true) : tkK T n s = if rn cDi T n s - s ≤ 3 then 3 else 1 := by
  unfold tkK
  rw [if_neg (by omega), if_neg hl, if_pos hd]
theorem tkK_s {T : Nat → Int32} {n s : Nat} (h : s < n) (hl : ¬ cLe (T s) = true) (hd : ¬ cDi (T s) = true) : tkK T n s = if T s = nI 59 then 4 else 1 := by
  unfold tkK
  rw [if_neg (by omega), if_neg hl, if_neg hd]
theorem lN1_add {a : Nat} : lN a + 1 = lN (a + 1) := lN_add a 1
theorem Mk.mk {h : PH} {T : Nat → Int32} {n s K E : Nat} (eK : tkK T n s = K) (eE : tkE T n s = E) (h3 : h.1 158 3 = nI (stM K)) (h4 : h.1 158 4 = clW K (tkV T n s)) (h5 : h.1 158 5 = nI s) (h6 : h.1 158 6 = nI E) (hw : K = 2 → h.2.1 158 10 = lN (tkV T n s)) (hn : K = 3 → h.1 158 7 = nI (tkV T n s)) : Mk h T n s := by
  subst eK
  subst eE
  exact ⟨h3, h4, h5, h6, hw, hn⟩
