/-! ===== the state of both, as numbers ===== -/
/-- the tape and its size; what is told; rules; the fault's kind and place; is a list told, the list; runs (0: the run, 1 .. 3: slots): R r 0 on, R r 1 winter, R r 2 week, R r 3 sign (plus one, 0: none); W r i t: rows stock, given, lacked, missed, spoilt, wanted (plus one), ordered; seeds -/
abbrev AS : Type := (Nat → Int32) × Nat × PD × RD × (Int32 × Int32) × (Nat × (Nat → Nat)) × (Nat → Nat → Nat) × (Nat → Nat → Nat → Nat) × (Nat → Nat)
abbrev aT (A : AS) : Nat → Int32 := A.1
abbrev aN (A : AS) : Nat := A.2.1
abbrev aP (A : AS) : PD := A.2.2.1
abbrev aU (A : AS) : RD := A.2.2.2.1
abbrev aF (A : AS) : Int32 × Int32 := A.2.2.2.2.1
abbrev aL (A : AS) : Nat × (Nat → Nat) := A.2.2.2.2.2.1
abbrev aR (A : AS) : Nat → Nat → Nat := A.2.2.2.2.2.2.1
abbrev aW (A : AS) : Nat → Nat → Nat → Nat := A.2.2.2.2.2.2.2.1
abbrev aS (A : AS) : Nat → Nat := A.2.2.2.2.2.2.2.2
/-- one row's number as the cells hold it: what is wanted may be none -/
def rwV (i x : Nat) : Int32 := if i = 5 then hlp x else nI x
def OkRun (P : PD) (R : Nat → Nat) (W : Nat → Nat → Nat) (s : Nat) : Prop := R 0 < 2 ∧ (R 0 = 1 → R 1 < P 0 2 0 ∧ R 2 ≤ P 0 0 0 ∧ R 3 ≤ 3 ∧ s < 2147483648 ∧ ∀ t, t < P 0 3 0 → W 0 t ≤ 40 ∧ W 1 t ≤ 3 * R 2 ∧ W 2 t ≤ 3 * R 2 ∧ W 3 t ≤ 3 * R 2 ∧ W 4 t ≤ 40 * R 2 ∧ W 5 t ≤ 4 ∧ W 6 t ≤ 40)
def WF (A : AS) : Prop := aN A ≤ 900 ∧ (∀ i, (aT A i).toInt8.toInt32 = aT A i) ∧ OkP (aP A) ∧ OkR (aP A) (aU A) ∧ ((aL A).1 < 2 ∧ ∀ t, (aL A).2 t ≤ 40) ∧ ∀ r, r < 4 → OkRun (aP A) (aR A r) (aW A r) (aS A r)
def rcX (r : Nat) : Nat := if r = 0 then 117 else 118 + 10 * r
def RnX (h : PH) (c : Nat) (P : PD) (R : Nat → Nat) (W : Nat → Nat → Nat) (s : Nat) : Prop := h.1 c 0 = nI (R 0) ∧ (R 0 = 1 → h.1 c 1 = nI (R 1) ∧ h.1 c 2 = nI (R 2) ∧ h.1 c 3 = hlp (R 3) ∧ h.2.1 c 5 = lN s ∧ ∀ t, t < P 0 3 0 → ∀ i, i < 7 → h.1 (c + 2 + i) t = rwV i (W i t))
def XI (h : PH) (p : Nat) (A : AS) : Prop :=
  (IsPo p ∧ h.2.2 0 2 = some p ∧ h.2.2 0 3 = some (47 - p)) ∧ ((∀ i, i < 900 → h.1 1 i = aT A i) ∧ h.1 0 1 = nI (aN A)) ∧ PoX h p (aP A) ∧ RuX h p (aP A) (aU A) ∧ (h.1 88 0 = (aF A).1 ∧ h.1 88 1 = (aF A).2) ∧ (h.1 103 2 = nI (aL A).1 ∧ ((aL A).1 = 1 → ∀ t, t < aP A 0 3 0 → h.1 109 t = nI ((aL A).2 t))) ∧ ∀ r, r < 4 → RnX h (rcX r) (aP A) (aR A r) (aW A r) (aS A r)
def RnM (h : PH) (b : Nat) (P : PD) (R : Nat → Nat) (W : Nat → Nat → Nat) : Prop := h.1 184 (b + 1) = nI (R 1) ∧ h.1 184 (b + 2) = nI (R 2) ∧ h.1 184 (b + 3) = hlp (R 3) ∧ ∀ t, t < P 0 3 0 → (∀ i, i < 6 → h.1 184 (b + 8 + 4 * i + t) = rwV i (W i t)) ∧ h.1 184 (b + 4 + t) = nI (W 6 t)
def MI (h : PH) (A : AS) : Prop :=
  ((∀ i, i < 900 → h.1 159 i = aT A i) ∧ h.1 158 1 = nI (aN A)) ∧ PoM h (aP A) ∧ RuM h (aP A) (aU A) ∧ (h.1 158 8 = (aF A).1 ∧ h.1 158 9 = (aF A).2) ∧ (h.1 158 42 = nI (aL A).1 ∧ ((aL A).1 = 1 → ∀ t, t < aP A 0 3 0 → h.1 178 t = nI ((aL A).2 t))) ∧
  (h.1 184 0 = nI (aR A 0 0) ∧ (∀ r, r < 3 → h.1 186 r = nI (aR A (r + 1) 0)) ∧ ∀ r, r < 4 → aR A r 0 = 1 → RnM h (32 * r) (aP A) (aR A r) (aW A r) ∧ h.2.1 185 r = lN (aS A r) ∧ h.1 184 (32 * r) = nI 1) ∧ h.1 158 35 = hlp 0
