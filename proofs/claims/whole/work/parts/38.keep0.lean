/-! ===== one thing's rule, changed for a while ===== -/
def zU (A : AS) (t : Nat) (z : Nat → Nat) : AS := wU A (fun j k => if j = t then z k else aU A j k)
theorem zU_zU {A : AS} {t : Nat} {z z' : Nat → Nat} : wU (zU A t z) (fun j i => if j = t then z' i else aU (zU A t z) j i) = zU A t z' := by
  unfold zU
  show (A.1, A.2.1, A.2.2.1, (fun j i => if j = t then z' i else (if j = t then z i else aU A j i)), A.2.2.2.2) = (A.1, A.2.1, A.2.2.1, (fun j k => if j = t then z' k else aU A j k), A.2.2.2.2)
  congr 4
  funext j i
  split <;> rfl
theorem zU_0 {A : AS} {t : Nat} : zU A t (aU A t) = A := by
  unfold zU
  show (A.1, A.2.1, A.2.2.1, (fun j k => if j = t then aU A t k else aU A j k), A.2.2.2.2) = A
  have e : (fun j k => if j = t then aU A t k else aU A j k) = aU A := by
    funext j k
    split
    · rename_i q; rw [q]
    · rfl
  rw [e]
theorem XI.rc {h : PH} {p : Nat} {A : AS} {U U' : RD} (a : XI h p (wU A U)) (e : ∀ t, U t 0 = U' t 0 ∧ U t 1 = U' t 1) : XI h p (wU A U') := by
  obtain ⟨a1, a2, a3, a4, a5⟩ := a
  exact ⟨a1, a2, a3, fun t ht => ⟨(a4 t ht).1.trans (congrArg nI (e t).1), (a4 t ht).2.trans (congrArg nI (e t).2)⟩, a5⟩
theorem MI.rc {h : PH} {A : AS} {U U' : RD} (a : MI h (wU A U)) (e : ∀ t, U t 0 = U' t 0 ∧ U t 1 = U' t 1) : MI h (wU A U') := by
  obtain ⟨a1, a2, a3, a4⟩ := a
  exact ⟨a1, a2, fun t ht => ⟨(a3 t ht).1.trans (congrArg nI (e t).1), (a3 t ht).2.trans (congrArg nI (e t).2)⟩, a4⟩
theorem zU_e {A : AS} {t : Nat} {z z' : Nat → Nat} (e0 : z 0 = z' 0) (e1 : z 1 = z' 1) : ∀ j, (fun j k => if j = t then z k else aU A j k) j 0 = (fun j k => if j = t then z' k else aU A j k) j 0 ∧ (fun j k => if j = t then z k else aU A j k) j 1 = (fun j k => if j = t then z' k else aU A j k) j 1 := by
  intro j
  show (if j = t then z 0 else aU A j 0) = (if j = t then z' 0 else aU A j 0) ∧ (if j = t then z 1 else aU A j 1) = (if j = t then z' 1 else aU A j 1)
  rw [e0, e1]
  exact ⟨rfl, rfl⟩
theorem XI.zc {h : PH} {p : Nat} {A : AS} {t : Nat} {z z' : Nat → Nat} (a : XI h p (zU A t z)) (e0 : z 0 = z' 0) (e1 : z 1 = z' 1) : XI h p (zU A t z') := XI.rc a (zU_e e0 e1)
theorem MI.zc {h : PH} {A : AS} {t : Nat} {z z' : Nat → Nat} (a : MI h (zU A t z)) (e0 : z 0 = z' 0) (e1 : z 1 = z' 1) : MI h (zU A t z') := MI.rc a (zU_e e0 e1)
theorem WF.zU {A : AS} {t : Nat} {z : Nat → Nat} (hW : WF A) (h0 : z 0 ≤ 2) (h1 : z 1 ≤ 40) : WF (zU A t z) := by
  obtain ⟨a1, a2, a3, a4, a5⟩ := hW
  refine ⟨a1, a2, a3, fun j hj => ?_, a5⟩
  show (if j = t then z 0 else aU A j 0) ≤ 2 ∧ (if j = t then z 1 else aU A j 1) ≤ 40
  split
  · exact ⟨h0, h1⟩
  · exact a4 j hj
theorem XI.zr {h : PH} {p : Nat} {A : AS} {t : Nat} {z : Nat → Nat} {k l : Nat} (a : XI h p (zU A t z)) (hW : WF (zU A t z)) (ht : t < aP A 0 3 0) : XI (sI (sI h (p + 9 + 7 * t) 8 (nI k)) (p + 9 + 7 * t) 9 (nI l)) p (zU A t (fun i => if i = 0 then k else l)) := by
  have h2 := a.rule (k := k) (l := l) hW (t := t) ht
  rw [← zU_zU (z := z)]
  exact h2
theorem sI_id {h : PH} {c k : Nat} {x : Int32} (e : h.1 c k = x) : sI h c k x = h := by
  have : upd (h.1 c) k x = h.1 c := by
    funext j
    unfold upd
    split
    · rename_i q; rw [q, e]
    · rfl
  unfold sI
  rw [this, wI_id]
theorem MI.z0 {h : PH} {A : AS} {t : Nat} {z : Nat → Nat} {k : Nat} (a : MI h (zU A t z)) (hW : WF (zU A t z)) (ht : t < aP A 0 3 0) : MI (sI h 171 t (nI k)) (zU A t (fun i => if i = 0 then k else z 1)) := by
  have h2 := a.rule (k := k) (l := z 1) hW (t := t) ht
  have h3 := zU_zU (A := A) (t := t) (z := z) (z' := fun i => if i = 0 then k else z 1)
  rw [← h3]
  have e : (sI h 171 t (nI k)).1 172 t = nI (z 1) := by
    rw [rI_c (by decide)]
    have := (a.2.2.1 t ht).2
    rw [this]
    show nI (if t = t then z 1 else _) = _
    rw [if_pos rfl]
  rw [sI_id e] at h2
  exact h2
theorem MI.z1 {h : PH} {A : AS} {t : Nat} {z : Nat → Nat} {l : Nat} (a : MI h (zU A t z)) (hW : WF (zU A t z)) (ht : t < aP A 0 3 0) : MI (sI h 172 t (nI l)) (zU A t (fun i => if i = 0 then z 0 else l)) := by
  have h2 := a.rule (k := z 0) (l := l) hW (t := t) ht
  have h3 := zU_zU (A := A) (t := t) (z := z) (z' := fun i => if i = 0 then z 0 else l)
  rw [← h3]
  have e : h.1 171 t = nI (z 0) := by
    have := (a.2.2.1 t ht).1
    rw [this]
    show nI (if t = t then z 0 else _) = _
    rw [if_pos rfl]
  rw [sI_id e] at h2
  exact h2
theorem zU_sOf {A : AS} {t q k : Nat} {z : Nat → Nat} (h0 : z 0 = 1) (h1 : z 1 = k) : sOf (zU A t z) t q = kf A t q k := by
  unfold sOf sIn kf zU
  show sL64 (fun w => lN (aP A 1 w 0) * scB (aP A 2 t) (if t = t then z 0 else aU A t 0) (if t = t then z 1 else aU A t 1) (aV A t w) (aP A 0 0 0) q) (aP A 0 2 0) = _
  rw [if_pos rfl, if_pos rfl, h0, h1]
/-- the best so far, its worth: nothing yet at the start -/
def mst (f : Nat → Int64) (i : Nat) : Int64 := if i = 0 then 0 else f (bst f (i - 1))
theorem bst_1 {f : Nat → Int64} {i : Nat} : bst f (i + 1 - 1) = bst f i := by rw [Nat.add_sub_cancel]
theorem mst_1 {f : Nat → Int64} {i : Nat} : mst f (i + 1) = f (bst f i) := by
  unfold mst
  rw [if_neg (by omega), Nat.add_sub_cancel]
theorem bst_take {f : Nat → Int64} {i : Nat} (h : i = 0 ∨ mst f i < f i) : bst f i = i := by
  cases i with
  | zero => rfl
  | succ n =>
    rcases h with h | h
    · omega
    · rw [mst_1] at h
      exact if_pos h
theorem bst_keep {f : Nat → Int64} {i : Nat} (h0 : i ≠ 0) (h : ¬ mst f i < f i) : bst f i = bst f (i - 1) := by
  cases i with
  | zero => omega
  | succ n =>
    rw [mst_1] at h
    exact if_neg h
theorem mst_keep {f : Nat → Int64} {i : Nat} (h0 : i ≠ 0) (h : ¬ mst f i < f i) : mst f (i + 1) = mst f i := by
  rw [mst_1, bst_keep h0 h]
  unfold mst
  rw [if_neg h0]
theorem mst_take {f : Nat → Int64} {i : Nat} (h : i = 0 ∨ mst f i < f i) : mst f (i + 1) = f i := by
  rw [mst_1, bst_take h]
/-- the model's best so far: none at the start -/
def bsN (f : Nat → Int64) (i : Nat) : Int32 := hlp (if i = 0 then 0 else bst f (i - 1) + 1)
theorem bsN_1 {f : Nat → Int64} {i : Nat} : bsN f (i + 1) = nI (bst f i) := by
  unfold bsN
  rw [if_neg (by omega), Nat.add_sub_cancel]
  rfl
theorem bsN_m1 {f : Nat → Int64} {i : Nat} (hi : i < 1000) : bsN f i = -1 ↔ i = 0 := by
  cases i with
  | zero => exact ⟨fun _ => rfl, fun _ => rfl⟩
  | succ n =>
    rw [bsN_1]
    have b := bst_le f n
    exact ⟨fun q => absurd q (nI_m1 (by omega)), fun q => by omega⟩
theorem bsN_take {f : Nat → Int64} {i : Nat} (h : i = 0 ∨ mst f i < f i) : bsN f (i + 1) = nI i := by rw [bsN_1, bst_take h]
theorem bsN_keep {f : Nat → Int64} {i : Nat} (h0 : i ≠ 0) (h : ¬ mst f i < f i) : bsN f (i + 1) = bsN f i := by
  rw [bsN_1, bst_keep h0 h]
  unfold bsN
  rw [if_neg h0]
  rfl
