/-! ===== the tape emptied; cells that are not told of ===== -/
abbrev eA (A : AS) : AS := wT A (aT A) 0
theorem WF.emp {A : AS} (hW : WF A) : WF (eA A) := ⟨Nat.zero_le _, hW.2⟩
theorem XI.emp {h : PH} {p : Nat} {A : AS} (a : XI h p A) (hW : WF A) : XI (sI h 0 1 (nI 0)) p (eA A) := a.tape hW (T := h.1 1) ⟨rW_c (by decide), rI_s, FT.a⟩ (fun i hi => a.2.1.1 i hi)
theorem MI.emp {h : PH} {A : AS} (a : MI h A) : MI (sI h 158 1 (nI 0)) (eA A) := a.tape (T := h.1 159) ⟨rW_c (by decide), rI_s, FT.a⟩ (fun i hi => a.1.1 i hi)
/-- the class's cells that are not told of -/
def XFr (h h' : PH) : Prop := (∀ c, (c < 92 ∨ 116 < c ∨ c = 103 ∨ c = 109) → h'.1 c = h.1 c ∧ h'.2.1 c = h.2.1 c) ∧ h'.2.2 = h.2.2
theorem XFr.rf {h : PH} : XFr h h := ⟨fun _ _ => ⟨rfl, rfl⟩, rfl⟩
theorem XFr.tr {h h1 h2 : PH} (a : XFr h h1) (b : XFr h1 h2) : XFr h h2 := ⟨fun c hc => ⟨((b.1 c hc).1).trans (a.1 c hc).1, ((b.1 c hc).2).trans (a.1 c hc).2⟩, b.2.trans a.2⟩
theorem XFr.of {lo hi : Nat} {h h' : PH} (f : Fr lo hi h h') (h1 : 92 ≤ lo) (h2 : hi ≤ 102) : XFr h h' := ⟨fun c hc => f.1 c (by omega), f.2⟩
theorem XFr.o1 {lo hi : Nat} {h h' : PH} (f : Fr lo hi h h') (h1 : 104 ≤ lo) (h2 : hi ≤ 108 ∨ (110 ≤ lo ∧ hi ≤ 116)) : XFr h h' := ⟨fun c hc => f.1 c (by omega), f.2⟩
theorem XFr.i {h h' : PH} (a : XFr h h') {c k : Nat} (hc : c < 92 ∨ 116 < c ∨ c = 103 ∨ c = 109) : h'.1 c k = h.1 c k := congrFun (a.1 c hc).1 k
theorem XFr.l {h h' : PH} (a : XFr h h') {c k : Nat} (hc : c < 92 ∨ 116 < c ∨ c = 103 ∨ c = 109) : h'.2.1 c k = h.2.1 c k := congrFun (a.1 c hc).2 k
theorem XFr.f {h h' : PH} (a : XFr h h') : Fr 92 116 h h' := ⟨fun c hc => a.1 c (by omega), a.2⟩
theorem XFr.fr {h h' : PH} (a : XFr h h') : Fr 0 157 h h' := a.f.mo (by decide) (by decide)
theorem XFr.g {h h' : PH} (a : XFr h h') (hG : GR h.2.2) : GR h'.2.2 := by rw [a.2]; exact hG
theorem XI.xf {h h' : PH} {p : Nat} {A : AS} (a : XI h p A) (hW : WF A) (f : XFr h h') : XI h' p A := by
  have F := f.f
  obtain ⟨⟨a1, a2, a3⟩, ⟨a4, a5⟩, a6, a7, ⟨a8, a9⟩, ⟨a10, a11⟩, a12⟩ := a
  exact ⟨⟨a1, F.r.trans a2, F.r.trans a3⟩, ⟨fun i hi => (F.i (by omega)).trans (a4 i hi), (F.i (by omega)).trans a5⟩, a6.fr a1 hW.2.2.1 F (by omega), a7.fr a1 hW.2.2.1 F (by omega), ⟨(F.i (by omega)).trans a8, (F.i (by omega)).trans a9⟩, ⟨(f.i (by omega)).trans a10, fun z t ht => (f.i (by omega)).trans (a11 z t ht)⟩, fun r hr => by
    have := rcX_b hr
    exact (a12 r hr).fr F (by omega)⟩
theorem inR_cl {x : Int32} {n : Nat} (h : inR x n) (hn : n < 2 ^ 31) : x = nI (cl x) ∧ cl x < n := by
  obtain ⟨j, hj, rfl⟩ := inR_of h
  rw [cl, nI_clamp (by omega)]
  exact ⟨rfl, hj⟩
/-! ===== signs seen ===== -/
abbrev sgOk (T : Nat → Int32) (n : Nat) : Prop := n ≤ 6 ∧ ∀ i, i < n → inR (T i - nI 48) 3
def sgv (T : Nat → Int32) (i : Nat) : Nat := cl (T i - nI 48)
theorem sgv_eq {T : Nat → Int32} {i : Nat} (h : inR (T i - nI 48) 3) : T i - nI 48 = nI (sgv T i) ∧ sgv T i < 3 := inR_cl h (by decide)
def pS (P : PD) (T : Nat → Int32) (w : Nat) : Nat → Nat
  | 0 => P 1 w 0
  | n + 1 => pS P T w n * P 1 w (sgv T n + 1)
def tS (P : PD) (T : Nat → Int32) (n : Nat) : Nat := if sgOk T n then sm (fun w => pS P T w n) (P 0 2 0) else 0
theorem WF.sg {A : AS} (a : WF A) {w k : Nat} (hw : w < aP A 0 2 0) (hk : k < 4) : aP A 1 w k ≤ 10 := by
  have b := a.2.2.1.2.1 w hw
  rcases (show k = 0 ∨ k = 1 ∨ k = 2 ∨ k = 3 by omega) with rfl | rfl | rfl | rfl <;> omega
theorem pS_b {A : AS} (hW : WF A) {T : Nat → Int32} {w : Nat} (hw : w < aP A 0 2 0) : ∀ n, (∀ i, i < n → inR (T i - nI 48) 3) → pS (aP A) T w n ≤ 10 ^ (n + 1)
  | 0, _ => by
    have := hW.sg hw (k := 0) (by decide)
    show aP A 1 w 0 ≤ 10 ^ 1
    omega
  | n + 1, h => by
    have h1 := pS_b hW hw n (fun i hi => h i (by omega))
    have h2 := hW.sg hw (k := sgv T n + 1) (by have := (sgv_eq (h n (by omega))).2; omega)
    show pS (aP A) T w n * _ ≤ _
    rw [Nat.pow_succ]
    exact Nat.mul_le_mul h1 h2
theorem pS_c {A : AS} (hW : WF A) {T : Nat → Int32} {w n : Nat} (hw : w < aP A 0 2 0) (h : sgOk T n) : pS (aP A) T w n ≤ 10000000 := Nat.le_trans (pS_b hW hw n h.2) (Nat.le_trans (Nat.pow_le_pow_right (by decide) (show n + 1 ≤ 7 by have := h.1; omega)) (by decide))
theorem sm_b {f : Nat → Nat} {b : Nat} : ∀ n, (∀ i, i < n → f i ≤ b) → sm f n ≤ n * b
  | 0, _ => by show 0 ≤ _; omega
  | n + 1, h => by
    have h1 := sm_b (f := f) n (fun i hi => h i (by omega))
    have h2 := h n (by omega)
    show sm f n + f n ≤ _
    rw [Nat.add_mul]
    omega
theorem tS_b {A : AS} (hW : WF A) {T : Nat → Int32} {n : Nat} : tS (aP A) T n ≤ 40000000 := by
  unfold tS
  split
  · rename_i h
    have h1 := sm_b (f := fun w => pS (aP A) T w n) (b := 10000000) (aP A 0 2 0) (fun i hi => pS_c hW hi h)
    have := hW.wn
    have h2 : aP A 0 2 0 * 10000000 ≤ 4 * 10000000 := Nat.mul_le_mul_right _ this
    omega
  · omega
theorem tS_ok {P : PD} {T : Nat → Int32} {n : Nat} (h : tS P T n ≠ 0) : sgOk T n := by
  unfold tS at h
  split at h
  · assumption
  · exact absurd rfl h
theorem lN_z {a : Nat} (ha : a < 2 ^ 63) : lN a = 0 ↔ a = 0 := pk_lEQ (a := a) (b := 0) ha (by decide)
def thinkA (A : AS) (w : Int32) (b : Nat) : Int64 := if inR w (aP A 0 2 0) then (if tS (aP A) (aT A) (aN A) = 0 then -1 else lstA (pS (aP A) (aT A) (cl w) (aN A)) (tS (aP A) (aT A) (aN A)) b) else -2
def afF (A : AS) (t q : Nat) : Int64 := sL64 (fun w => lN (pS (aP A) (aT A) w (aN A)) * sIn A t q w) (aP A 0 2 0)
def afterA (A : AS) (t : Int32) : Int32 := if inR t (aP A 0 3 0) then (if tS (aP A) (aT A) (aN A) = 0 then -1 else nI (bst (afF A (cl t)) 40)) else -2
/-! ===== trust ===== -/
theorem bit_nI {s f : Nat} (hs : s < 64) (hf : f < 6) : (nI s >>> (nI f &&& 31)) &&& nI 1 = nI (s / 2 ^ f % 2) := by
  have h : ∀ f, f < 6 → ∀ s, s < 64 → (nI s >>> (nI f &&& 31)) &&& nI 1 = nI (s / 2 ^ f % 2) := by decide +kernel
  exact h f hf s hs
theorem shl_nI {f : Nat} (hf : f ≤ 6) : nI 1 <<< (nI f &&& 31) = nI (2 ^ f) := by
  have h : ∀ f, f < 7 → nI 1 <<< (nI f &&& 31) = nI (2 ^ f) := by decide +kernel
  exact h f (by omega)
theorem pow6 {f : Nat} (hf : f ≤ 6) : 1 ≤ 2 ^ f ∧ 2 ^ f ≤ 64 := ⟨Nat.pow_pos (by decide), Nat.le_trans (Nat.pow_le_pow_right (by decide) hf) (by decide)⟩
def btN (s f : Nat) : Nat := s / 2 ^ f % 2
theorem bt_lt (s f : Nat) : btN s f < 2 := Nat.mod_lt _ (by decide)
def owS (P : PD) (s : Nat) : Nat → Nat
  | 0 => 0
  | n + 1 => if btN s n = 1 then owS P s n + P 6 n 1 else owS P s n
def gnS (P : PD) (s : Nat) : Nat → Int32
  | 0 => nI 0
  | n + 1 => if btN s n = 1 then gnS P s n + (nI (P 6 n 2 * 10) - (nI 10 - nI (P 6 n 0)) * nI (P 6 n 1)) else gnS P s n
def trS (P : PD) (b : Nat) : Nat → Nat × Int32
  | 0 => (0, nI 0)
  | n + 1 => if owS P (n + 1) (P 0 4 0) ≤ b ∧ (trS P b n).2 < gnS P (n + 1) (P 0 4 0) then (n + 1, gnS P (n + 1) (P 0 4 0)) else trS P b n
theorem trS_b {P : PD} {b : Nat} : ∀ n, (trS P b n).1 ≤ n
  | 0 => Nat.le_refl 0
  | n + 1 => by
    have := trS_b (P := P) (b := b) n
    unfold trS
    split
    · exact Nat.le_refl _
    · omega
theorem WF.fm {A : AS} (a : WF A) {f : Nat} (hf : f < aP A 0 4 0) : aP A 6 f 0 ≤ 10 ∧ (1 ≤ aP A 6 f 1 ∧ aP A 6 f 1 ≤ 500) ∧ aP A 6 f 2 ≤ 500 := a.2.2.1.2.2.2.2.2.2 f hf
theorem owS_b {A : AS} (hW : WF A) {s : Nat} : ∀ n, n ≤ aP A 0 4 0 → owS (aP A) s n ≤ n * 500
  | 0, _ => Nat.le_refl 0
  | n + 1, h => by
    have h1 := owS_b hW (s := s) n (by omega)
    have h2 := hW.fm (f := n) (by omega)
    show (if btN s n = 1 then owS (aP A) s n + aP A 6 n 1 else owS (aP A) s n) ≤ (n + 1) * 500
    rw [Nat.add_mul]
    by_cases q : btN s n = 1
    · rw [if_pos q]
      clear q
      omega
    · rw [if_neg q]
      exact Nat.le_trans h1 (Nat.le_add_right _ _)
theorem owS_1 {P : PD} {s n : Nat} (h : btN s n = 1) : owS P s (n + 1) = owS P s n + P 6 n 1 := if_pos h
theorem owS_0 {P : PD} {s n : Nat} (h : ¬ btN s n = 1) : owS P s (n + 1) = owS P s n := if_neg h
theorem gnS_1 {P : PD} {s n : Nat} (h : btN s n = 1) : gnS P s (n + 1) = gnS P s n + (nI (P 6 n 2 * 10) - (nI 10 - nI (P 6 n 0)) * nI (P 6 n 1)) := if_pos h
theorem gnS_0 {P : PD} {s n : Nat} (h : ¬ btN s n = 1) : gnS P s (n + 1) = gnS P s n := if_neg h
theorem trS_1 {P : PD} {b n : Nat} (h1 : owS P (n + 1) (P 0 4 0) ≤ b) (h2 : (trS P b n).2 < gnS P (n + 1) (P 0 4 0)) : trS P b (n + 1) = (n + 1, gnS P (n + 1) (P 0 4 0)) := if_pos ⟨h1, h2⟩
theorem trS_0 {P : PD} {b n : Nat} (h : ¬ (owS P (n + 1) (P 0 4 0) ≤ b ∧ (trS P b n).2 < gnS P (n + 1) (P 0 4 0))) : trS P b (n + 1) = trS P b n := if_neg h
def trustA (A : AS) (b : Int32) : Int32 := if inR b 10000 then nI (trS (aP A) (cl b) (2 ^ aP A 0 4 0 - 1)).1 else -2
