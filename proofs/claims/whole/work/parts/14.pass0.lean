/-! ===== any winter: words ===== -/
def sL64 (f : Nat → Int64) : Nat → Int64
  | 0 => 0
  | n + 1 => sL64 f n + f n
abbrev EV (sf : Nat) (pe : Int64) : Nat → Int64 := fun j => if sf = 1 then 1 else pe * lN j
def anyS (rk rl so : Nat) (u : Nat → Nat → Nat) (sf : Nat) (pg pl pm ps : Int64) (V : Nat → Int64) (x : Nat → Int64) (k s n : Nat) : Int64 := sL64 (fun w => x w * VB rk rl so (u w) sf pg pl pm ps 1 V k s) n
def FP (h h' : PH) : Prop := Fr 92 97 h h' ∧ h'.1 92 = h.1 92 ∧ (∀ k, k ≠ 11 → h'.2.1 92 k = h.2.1 92 k) ∧ h'.2.1 96 = h.2.1 96
theorem FP.rf {h : PH} : FP h h := ⟨Fr.rf, rfl, fun _ _ => rfl, rfl⟩
theorem FP.tr {h h1 h2 : PH} (a : FP h h1) (b : FP h1 h2) : FP h h2 := ⟨a.1.tr b.1, b.2.1.trans a.2.1, fun k hk => (b.2.2.1 k hk).trans (a.2.2.1 k hk), b.2.2.2.trans a.2.2.2⟩
theorem FP.of {h h' : PH} (a : FO h h') : FP h h' := ⟨a.fr, a.2.1, a.2.2.1, (a.1 96 (by omega)).2⟩
theorem FP.any {h : PH} {g : Nat → Int64} : FP h (wL h 94 g) := ⟨Fr.wL (by omega) (by omega), rfl, fun k _ => congrFun (rWL_c (by decide)) k, rWL_c (by decide)⟩
theorem OL.fp {h h' : PH} {sf : Nat} {pg pl pm ps : Int64} (a : OL h sf pg pl pm ps) (f : FP h h') : OL h' sf pg pl pm ps := ⟨(congrFun f.2.1 5).trans a.1, (f.2.2.1 6 (by decide)).trans a.2.1, (f.2.2.1 7 (by decide)).trans a.2.2.1, (f.2.2.1 8 (by decide)).trans a.2.2.2.1, (f.2.2.1 9 (by decide)).trans a.2.2.2.2.1, a.2.2.2.2.2⟩
def bst (f : Nat → Int64) : Nat → Nat
  | 0 => 0
  | n + 1 => if f (bst f n) < f (n + 1) then n + 1 else bst f n
theorem bst_le (f : Nat → Int64) : ∀ n, bst f n ≤ n
  | 0 => Nat.le_refl 0
  | n + 1 => by
    have := bst_le f n
    unfold bst
    split <;> omega
theorem negL {a : Nat} (h : a < 2 ^ 31) : (-nI a).toInt64 = -lN a := by
  apply Int64.toInt_inj.mp
  rw [Int32.toInt_toInt64, sb_negT h, Int64.toInt_neg, pk_lT (by omega)]
  have : (-(a : Int)).bmod (2 ^ 64) = -(a : Int) := by
    apply Int.bmod_eq_of_le <;> omega
  rw [this]
