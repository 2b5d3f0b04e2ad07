/-! ===== tokens ===== -/
def cBl (c : Int32) : Bool := decide (c = nI 32 ∨ c = nI 10)
def cLe (c : Int32) : Bool := decide (97 ≤ c.toInt ∧ c.toInt ≤ 122)
def cDi (c : Int32) : Bool := decide (48 ≤ c.toInt ∧ c.toInt ≤ 57)
/-- how far signs of one kind go on from p -/
def rnF (c : Int32 → Bool) (T : Nat → Int32) (n : Nat) : Nat → Nat → Nat
  | 0, p => p
  | f + 1, p => if p < n ∧ c (T p) = true then rnF c T n f (p + 1) else p
def rn (c : Int32 → Bool) (T : Nat → Int32) (n p : Nat) : Nat := rnF c T n (n - p) p
theorem rnF_ge {c : Int32 → Bool} {T : Nat → Int32} {n : Nat} : ∀ f p, p ≤ rnF c T n f p
  | 0, p => Nat.le_refl p
  | f + 1, p => by
    unfold rnF
    split
    · exact Nat.le_trans (Nat.le_succ p) (rnF_ge f (p + 1))
    · exact Nat.le_refl p
theorem rnF_le {c : Int32 → Bool} {T : Nat → Int32} {n : Nat} : ∀ f p, p ≤ n → rnF c T n f p ≤ n
  | 0, p, h => h
  | f + 1, p, h => by
    unfold rnF
    split
    · rename_i q
      exact rnF_le f (p + 1) q.1
    · exact h
theorem rnF_in {c : Int32 → Bool} {T : Nat → Int32} {n : Nat} : ∀ f p j, p ≤ j → j < rnF c T n f p → j < n ∧ c (T j) = true
  | 0, p, j, h1, h2 => absurd h2 (Nat.not_lt.mpr h1)
  | f + 1, p, j, h1, h2 => by
    unfold rnF at h2
    by_cases q : p < n ∧ c (T p) = true
    · rw [if_pos q] at h2
      by_cases e : j = p
      · rw [e]; exact q
      · exact rnF_in f (p + 1) j (by omega) h2
    · rw [if_neg q] at h2
      exact absurd h2 (Nat.not_lt.mpr h1)
theorem rnF_out {c : Int32 → Bool} {T : Nat → Int32} {n : Nat} : ∀ f p, n - p ≤ f → ¬ (rnF c T n f p < n ∧ c (T (rnF c T n f p)) = true)
  | 0, p, h => fun q => by
    have := q.1
    unfold rnF at this
    omega
  | f + 1, p, h => by
    unfold rnF
    by_cases q : p < n ∧ c (T p) = true
    · rw [if_pos q]
      exact rnF_out f (p + 1) (by omega)
    · rw [if_neg q]
      exact q
theorem rn_ge {c : Int32 → Bool} {T : Nat → Int32} {n p : Nat} : p ≤ rn c T n p := rnF_ge _ _
theorem rn_le {c : Int32 → Bool} {T : Nat → Int32} {n p : Nat} (h : p ≤ n) : rn c T n p ≤ n := rnF_le _ _ h
theorem rn_in {c : Int32 → Bool} {T : Nat → Int32} {n p j : Nat} (h1 : p ≤ j) (h2 : j < rn c T n p) : j < n ∧ c (T j) = true := rnF_in _ _ j h1 h2
theorem rn_out {c : Int32 → Bool} {T : Nat → Int32} {n p : Nat} : ¬ (rn c T n p < n ∧ c (T (rn c T n p)) = true) := rnF_out _ _ (Nat.le_refl _)
theorem rn_gt {c : Int32 → Bool} {T : Nat → Int32} {n p : Nat} (h1 : p < n) (h2 : c (T p) = true) : p < rn c T n p := by
  have h := rn_out (c := c) (T := T) (n := n) (p := p)
  have g := rn_ge (c := c) (T := T) (n := n) (p := p)
  by_cases q : p = rn c T n p
  · rw [← q] at h
    exact absurd ⟨h1, h2⟩ h
  · omega
/-- a token's kind at its start: 0 the end, 1 none, 2 a word, 3 a number, 4 a semicolon -/
def tkK (T : Nat → Int32) (n s : Nat) : Nat := if n ≤ s then 0 else if cLe (T s) = true then (if rn cLe T n s - s ≤ 8 then 2 else 1) else if cDi (T s) = true then (if rn cDi T n s - s ≤ 3 then 3 else 1) else if T s = nI 59 then 4 else 1
def tkE (T : Nat → Int32) (n s : Nat) : Nat := if n ≤ s then s else if cLe (T s) = true then rn cLe T n s else if cDi (T s) = true then rn cDi T n s else s + 1
def wvN (T : Nat → Int32) (s : Nat) : Nat → Nat
  | 0 => 0
  | k + 1 => wvN T s k * 32 + (cl (T (s + k)) - 96)
def nvN (T : Nat → Int32) (s : Nat) : Nat → Nat
  | 0 => 0
  | k + 1 => nvN T s k * 10 + (cl (T (s + k)) - 48)
def tkV (T : Nat → Int32) (n s : Nat) : Nat := if tkK T n s = 2 then wvN T s (tkE T n s - s) else nvN T s (tkE T n s - s)
theorem tkE_ge {T : Nat → Int32} {n s : Nat} : s ≤ tkE T n s := by
  unfold tkE
  split
  · exact Nat.le_refl _
  · split
    · exact rn_ge
    · split
      · exact rn_ge
      · omega
theorem tkE_gt {T : Nat → Int32} {n s : Nat} (h : s < n) : s < tkE T n s := by
  unfold tkE
  rw [if_neg (by omega)]
  split
  · rename_i q
    exact rn_gt h q
  · split
    · rename_i q
      exact rn_gt h q
    · omega
theorem tkE_le {T : Nat → Int32} {n s : Nat} (h : s ≤ n) : tkE T n s ≤ n := by
  unfold tkE
  split
  · exact h
  · split
    · exact rn_le h
    · split
      · exact rn_le h
      · omega
theorem tkK_0 {T : Nat → Int32} {n s : Nat} : tkK T n s = 0 ↔ n ≤ s := by
  unfold tkK
  constructor
  · intro h
    by_cases q : n ≤ s
    · exact q
    · rw [if_neg q] at h
      (repeat' split at h) <;> omega
  · intro h
    rw [if_pos h]
theorem cLe_b {c : Int32} (h : cLe c = true) : 97 ≤ cl c ∧ cl c ≤ 122 ∧ c = nI (cl c) := by
  have z := of_decide_eq_true h
  obtain ⟨j, hj, rfl⟩ := inR_of (t := c) (n := 123) ⟨by omega, by omega⟩
  rw [nI_toInt (by omega)] at z
  rw [cl, nI_clamp (by omega)]
  exact ⟨by omega, by omega, rfl⟩
theorem cDi_b {c : Int32} (h : cDi c = true) : 48 ≤ cl c ∧ cl c ≤ 57 ∧ c = nI (cl c) := by
  have z := of_decide_eq_true h
  obtain ⟨j, hj, rfl⟩ := inR_of (t := c) (n := 58) ⟨by omega, by omega⟩
  rw [nI_toInt (by omega)] at z
  rw [cl, nI_clamp (by omega)]
  exact ⟨by omega, by omega, rfl⟩
/-- packed letters tell the word -/
theorem wv_inj {T U : Nat → Int32} {s t : Nat} : ∀ k l, (∀ i, i < k → cLe (T (s + i)) = true) → (∀ i, i < l → cLe (U (t + i)) = true) → (wvN T s k = wvN U t l ↔ k = l ∧ ∀ i, i < k → T (s + i) = U (t + i))
  | 0, 0, _, _ => ⟨fun _ => ⟨rfl, fun i hi => absurd hi (Nat.not_lt_zero i)⟩, fun _ => rfl⟩
  | 0, l + 1, _, hU => by
    have b := cLe_b (hU l (by omega))
    refine ⟨fun h => ?_, fun h => absurd h.1 (by omega)⟩
    have h2 : 0 = wvN U t l * 32 + (cl (U (t + l)) - 96) := h
    omega
  | k + 1, 0, hT, _ => by
    have b := cLe_b (hT k (by omega))
    refine ⟨fun h => ?_, fun h => absurd h.1 (by omega)⟩
    have h2 : wvN T s k * 32 + (cl (T (s + k)) - 96) = 0 := h
    omega
  | k + 1, l + 1, hT, hU => by
    have b1 := cLe_b (hT k (by omega))
    have b2 := cLe_b (hU l (by omega))
    have ih := wv_inj (T := T) (U := U) (s := s) (t := t) k l (fun i hi => hT i (by omega)) (fun i hi => hU i (by omega))
    constructor
    · intro h
      have h2 : wvN T s k * 32 + (cl (T (s + k)) - 96) = wvN U t l * 32 + (cl (U (t + l)) - 96) := h
      have e1 : wvN T s k = wvN U t l := by omega
      have e2 : cl (T (s + k)) = cl (U (t + l)) := by omega
      obtain ⟨e3, e4⟩ := ih.mp e1
      subst e3
      refine ⟨rfl, fun i hi => ?_⟩
      by_cases q : i = k
      · rw [q, b1.2.2, b2.2.2, e2]
      · exact e4 i (by omega)
    · rintro ⟨h1, h2⟩
      have e3 : k = l := by omega
      subst e3
      have e4 := ih.mpr ⟨rfl, fun i hi => h2 i (by omega)⟩
      show wvN T s k * 32 + (cl (T (s + k)) - 96) = wvN U t k * 32 + (cl (U (t + k)) - 96)
      rw [e4, h2 k (by omega)]
theorem wv_b {T : Nat → Int32} {s : Nat} : ∀ k, (∀ i, i < k → cLe (T (s + i)) = true) → wvN T s k < 32 ^ k
  | 0, _ => Nat.zero_lt_one
  | k + 1, h => by
    have b := cLe_b (h k (by omega))
    have ih := wv_b (T := T) (s := s) k (fun i hi => h i (by omega))
    show wvN T s k * 32 + (cl (T (s + k)) - 96) < 32 ^ k * 32
    omega
theorem nv_b {T : Nat → Int32} {s : Nat} : ∀ k, (∀ i, i < k → cDi (T (s + i)) = true) → nvN T s k < 10 ^ k
  | 0, _ => Nat.zero_lt_one
  | k + 1, h => by
    have b := cDi_b (h k (by omega))
    have ih := nv_b (T := T) (s := s) k (fun i hi => h i (by omega))
    show nvN T s k * 10 + (cl (T (s + k)) - 48) < 10 ^ k * 10
    omega
/-- the clauses' first words, packed -/
def kwT : List Nat := [24286579, 3198131, 781668530, 21243335, 755156, 10154021924, 202810777]
def kwF (V : Nat) : Nat → Nat
  | 0 => 0
  | k + 1 => if kwF V k ≠ 0 then kwF V k else if kwT.getD k 0 = V then k + 1 else 0
/-- which clause a word begins, plus one; 0: none -/
def kw (V : Nat) : Nat := kwF V 7
