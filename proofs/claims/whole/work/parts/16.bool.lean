/-! ===== truths, and numbers in a range ===== -/
def bI (c : Prop) [Decidable c] : Int32 := if c then nI 1 else nI 0
theorem bI_nar (c : Prop) [Decidable c] : narrow .boolean (.int (bI c)) = .int (bI c) := by
  unfold bI
  split <;> rfl
theorem bI_fit (c : Prop) [Decidable c] : fits .boolean (.int (bI c)) = true := by
  unfold bI
  split <;> rfl
theorem bI_eq0 (c : Prop) [Decidable c] : bI c = 0 ↔ ¬ c := by
  unfold bI
  split
  · exact ⟨fun q => absurd q (by decide), fun q => absurd ‹c› q⟩
  · exact ⟨fun _ => ‹¬ c›, fun _ => rfl⟩
theorem bI_congr {c d : Prop} [Decidable c] [Decidable d] (h : c ↔ d) : bI c = bI d := by
  unfold bI
  by_cases q : c
  · rw [if_pos q, if_pos (h.mp q)]
  · rw [if_neg q, if_neg (fun z => q (h.mpr z))]
theorem bI_t {c : Prop} [Decidable c] (h : c) : nI 1 = bI c := by unfold bI; rw [if_pos h]
theorem bI_f {c : Prop} [Decidable c] (h : ¬ c) : nI 0 = bI c := by unfold bI; rw [if_neg h]
abbrev inR (t : Int32) (n : Nat) : Prop := 0 ≤ t.toInt ∧ t.toInt < n
theorem inR_of {t : Int32} {n : Nat} (h : inR t n) : ∃ j, j < n ∧ t = nI j := by
  refine ⟨t.toInt.toNat, by omega, ?_⟩
  apply Int32.toInt_inj.mp
  have h1 := Int32.toInt_lt t
  rw [nI_toInt (by omega)]
  omega
theorem inR_nI {j n : Nat} (h : j < n) (hj : j < 2 ^ 31) : inR (nI j) n := by
  unfold inR
  rw [nI_toInt hj]
  omega
theorem inR_nI_iff {j n : Nat} (hj : j < 2 ^ 31) : inR (nI j) n ↔ j < n := by
  unfold inR
  rw [nI_toInt hj]
  omega
theorem le_nI {v : Int32} {b : Nat} (hb : b < 2 ^ 31) : v ≤ nI b ↔ v.toInt ≤ b := by rw [Int32.le_iff_toInt_le, nI_toInt hb]
theorem nI_le_ {v : Int32} {b : Nat} (hb : b < 2 ^ 31) : nI b ≤ v ↔ (b : Int) ≤ v.toInt := by rw [Int32.le_iff_toInt_le, nI_toInt hb]
theorem lt_nI {v : Int32} {b : Nat} (hb : b < 2 ^ 31) : v < nI b ↔ v.toInt < b := by rw [Int32.lt_iff_toInt_lt, nI_toInt hb]
theorem nI_lt_ {v : Int32} {b : Nat} (hb : b < 2 ^ 31) : nI b < v ↔ (b : Int) < v.toInt := by rw [Int32.lt_iff_toInt_lt, nI_toInt hb]
theorem lt_0_ {v : Int32} : v < 0 ↔ v.toInt < 0 := by rw [Int32.lt_iff_toInt_lt]; rfl
theorem le_0_ {v : Int32} : 0 ≤ v ↔ 0 ≤ v.toInt := by rw [Int32.le_iff_toInt_le]; rfl
theorem in_iff {v : Int32} {n : Nat} (hn : n < 2 ^ 30) : (nI 0 ≤ v ∧ v ≤ nI n - nI 1) ↔ inR v n := by
  rw [nI_le_ (by decide), Int32.le_iff_toInt_le, pk_sub_toInt hn (by decide)]
  unfold inR
  omega
theorem in_iffN {v : Int32} {b : Nat} (hb : b < 2 ^ 30) : (nI 0 ≤ v ∧ v ≤ nI b) ↔ inR v (b + 1) := by
  rw [nI_le_ (by decide), le_nI (by omega)]
  unfold inR
  omega
section JB
variable {M M2 : MD} {R : Room} {sh0 : SH} {Z : ZT} {pc nx : Nat} {L : List (Option PV)} {st : List PV} {sh : SH} {h : PH}
theorem J_if_eqB {c : Prop} [Decidable c] {tgt : Nat} (hd : DI M pc (.ifCond .eq ((tgt : Int) - (pc : Int))) 3 nx) (kt : ¬ c → J M R sh0 Z tgt L st sh h) (kf : c → J M R sh0 Z nx L st sh h) : J M R sh0 Z pc L (pI (bI c) :: st) sh h := J_if_eq hd (fun q => kt ((bI_eq0 c).mp q)) (fun q => kf (Decidable.of_not_not (fun z => q ((bI_eq0 c).mpr z))))
theorem J_if_neB {c : Prop} [Decidable c] {tgt : Nat} (hd : DI M pc (.ifCond .ne ((tgt : Int) - (pc : Int))) 3 nx) (kt : c → J M R sh0 Z tgt L st sh h) (kf : ¬ c → J M R sh0 Z nx L st sh h) : J M R sh0 Z pc L (pI (bI c) :: st) sh h := J_if_ne hd (fun q => kt (Decidable.of_not_not (fun z => q ((bI_eq0 c).mpr z)))) (fun q => kf ((bI_eq0 c).mp q))
end JB
/-! the model's week -/
def WM (h : PH) (t w : Nat) (u : Nat → Nat) : Prop := ∀ n, n < 5 → h.1 166 (5 * (4 * t + w) + n) = nI (u n) ∧ u n ≤ 10
def TM (h : PH) (t rk rl so : Nat) : Prop := h.1 171 t = nI rk ∧ h.1 172 t = nI rl ∧ h.1 165 (6 * t + 5) = nI so ∧ rk < 1000 ∧ rl < 1000 ∧ so < 1000 ∧ so ≠ 1
theorem slN_eq {so x : Nat} (h : so ≠ 1) : slN so x = if so = 0 then 0 else x / so := by
  unfold slN
  by_cases q : so = 0
  · simp [q]
  · rw [if_neg (by omega), if_neg q]
def nxN (rk rl so ne s n : Nat) : Nat := rsN rk rl s n ne - slN so (rsN rk rl s n ne)
theorem nx_le (rk rl so ne s n : Nat) : nxN rk rl so ne s n ≤ s := by
  unfold nxN
  have := rs_le rk rl s n ne
  omega
