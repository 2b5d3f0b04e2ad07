/-! ===== the model's bytes ===== -/
/-- what the model reads at j -/
def byM (T : Nat → Int32) (n j : Nat) : Int32 := if j < n then T j &&& nI 255 else -1
theorem byte_c : ∀ i : Nat, i < 256 → (cLe (Int32.ofInt ((i : Int) - 128) &&& nI 255) = cLe (Int32.ofInt ((i : Int) - 128)) ∧ cDi (Int32.ofInt ((i : Int) - 128) &&& nI 255) = cDi (Int32.ofInt ((i : Int) - 128)) ∧ cBl (Int32.ofInt ((i : Int) - 128) &&& nI 255) = cBl (Int32.ofInt ((i : Int) - 128)) ∧ decide (Int32.ofInt ((i : Int) - 128) &&& nI 255 = nI 59) = decide (Int32.ofInt ((i : Int) - 128) = nI 59) ∧ (cLe (Int32.ofInt ((i : Int) - 128)) = true ∨ cDi (Int32.ofInt ((i : Int) - 128)) = true → Int32.ofInt ((i : Int) - 128) &&& nI 255 = Int32.ofInt ((i : Int) - 128)) ∧ ¬ Int32.ofInt ((i : Int) - 128) &&& nI 255 = -1) := by decide +kernel
theorem byte_x {x : Int32} (h : x.toInt8.toInt32 = x) : ∃ i : Nat, i < 256 ∧ x = Int32.ofInt ((i : Int) - 128) := by
  have h1 := Int8.le_toInt x.toInt8
  have h2 := Int8.toInt_lt x.toInt8
  have e : x.toInt = x.toInt8.toInt := by
    have := congrArg Int32.toInt h
    rw [Int8.toInt_toInt32] at this
    exact this.symm
  refine ⟨(x.toInt + 128).toNat, by omega, ?_⟩
  rw [show (((x.toInt + 128).toNat : Nat) : Int) - 128 = x.toInt by omega]
  exact (Int32.ofInt_toInt x).symm
theorem byte_k {x : Int32} (h : x.toInt8.toInt32 = x) : (cLe (x &&& nI 255) = cLe x ∧ cDi (x &&& nI 255) = cDi x ∧ cBl (x &&& nI 255) = cBl x ∧ decide (x &&& nI 255 = nI 59) = decide (x = nI 59) ∧ (cLe x = true ∨ cDi x = true → x &&& nI 255 = x) ∧ ¬ x &&& nI 255 = -1) := by
  obtain ⟨i, hi, rfl⟩ := byte_x h
  exact byte_c i hi
theorem m1_c : cLe (-1) = false ∧ cDi (-1) = false ∧ cBl (-1) = false := by decide
/-- the model's byte is of a kind just where the tape's is, inside the text -/
theorem byM_c {T : Nat → Int32} {n j : Nat} (hT : ∀ i, (T i).toInt8.toInt32 = T i) : (cLe (byM T n j) = true ↔ j < n ∧ cLe (T j) = true) ∧ (cDi (byM T n j) = true ↔ j < n ∧ cDi (T j) = true) ∧ (cBl (byM T n j) = true ↔ j < n ∧ cBl (T j) = true) ∧ (byM T n j = nI 59 ↔ j < n ∧ T j = nI 59) ∧ (byM T n j = -1 ↔ ¬ j < n) ∧ (j < n → cLe (T j) = true ∨ cDi (T j) = true → byM T n j = T j) := by
  have b := byte_k (hT j)
  by_cases q : j < n
  · have e : byM T n j = T j &&& nI 255 := if_pos q
    rw [e]
    refine ⟨by rw [b.1]; exact ⟨fun z => ⟨q, z⟩, fun z => z.2⟩, by rw [b.2.1]; exact ⟨fun z => ⟨q, z⟩, fun z => z.2⟩, by rw [b.2.2.1]; exact ⟨fun z => ⟨q, z⟩, fun z => z.2⟩, ⟨fun z => ⟨q, of_decide_eq_true (b.2.2.2.1.symm.trans (decide_eq_true z))⟩, fun z => of_decide_eq_true (b.2.2.2.1.trans (decide_eq_true z.2))⟩, ⟨fun z => absurd z b.2.2.2.2.2, fun z => absurd q z⟩, fun _ z => b.2.2.2.2.1 z⟩
  · have e : byM T n j = -1 := if_neg q
    rw [e]
    exact ⟨⟨fun z => absurd z (by decide), fun z => absurd z.1 q⟩, ⟨fun z => absurd z (by decide), fun z => absurd z.1 q⟩, ⟨fun z => absurd z (by decide), fun z => absurd z.1 q⟩, ⟨fun z => absurd z (by decide), fun z => absurd z.1 q⟩, ⟨fun _ => q, fun _ => rfl⟩, fun z => absurd z q⟩
