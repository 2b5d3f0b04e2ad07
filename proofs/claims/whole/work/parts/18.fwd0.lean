/-! ===== forwards: how many ways lead to a stock ===== -/
def thI (rk rl so : Nat) (u d : Nat → Nat) (s : Nat) (T : Nat → Nat) : Nat → Nat → Nat
  | 0 => T
  | n + 1 => fun j => thI rk rl so u d s T n j + (if j = nxN rk rl so (u 4) s n then d s * u n else 0)
def thO (rk rl so : Nat) (u d : Nat → Nat) : Nat → Nat → Nat
  | 0 => fun _ => 0
  | s + 1 => thI rk rl so u d s (thO rk rl so u d s) 4
def mnI (c : Nat → Nat → Nat) (u d : Nat → Nat) (r : Int64) (s : Nat) (m : Int64) : Nat → Int64
  | 0 => m
  | n + 1 => mnI c u d r s m n + lN (d s * u n) * r * lN (c s n)
def mnO (c : Nat → Nat → Nat) (u d : Nat → Nat) (r : Int64) (m : Int64) : Nat → Int64
  | 0 => m
  | s + 1 => mnI c u d r s (mnO c u d r m s) 4
def sgO (S M : Nat) (d : Nat → Nat) : Nat → Nat → Nat
  | 0 => fun _ => 0
  | s + 1 => fun j => sgO S M d s j + (if j = (if s ≤ S then s + M else s) then d s else 0)
def sgC (S M : Nat) (d : Nat → Nat) (t : Int64) (m : Int64) : Nat → Int64
  | 0 => m
  | s + 1 => sgC S M d t m s + (if s ≤ S then lN (d s) * t * lN M else 0)
theorem thI_0 {rk rl so : Nat} {u d : Nat → Nat} {s : Nat} {T : Nat → Nat} (h : d s = 0) : ∀ n, thI rk rl so u d s T n = T
  | 0 => rfl
  | n + 1 => by
    funext j
    show thI rk rl so u d s T n j + _ = T j
    rw [thI_0 h n, h]
    simp
theorem mnI_0 {c : Nat → Nat → Nat} {u d : Nat → Nat} {r : Int64} {s : Nat} {m : Int64} (h : d s = 0) : ∀ n, mnI c u d r s m n = m
  | 0 => rfl
  | n + 1 => by
    show mnI c u d r s m n + _ = m
    rw [mnI_0 h n, h, Nat.zero_mul, lN_0]
    simp
theorem thI_le {rk rl so : Nat} {u d T : Nat → Nat} {s A B : Nat} (hu : ∀ n, n < 5 → u n ≤ 10) (hd : d s ≤ B) (hT : ∀ j, T j ≤ A) : ∀ n, n ≤ 4 → ∀ j, thI rk rl so u d s T n j ≤ A + n * (B * 10)
  | 0, _, j => by have := hT j; simpa [thI] using this
  | n + 1, hn, j => by
    have h1 := thI_le (rk := rk) (rl := rl) (so := so) hu hd hT n (by omega) j
    have h2 : d s * u n ≤ B * 10 := Nat.mul_le_mul hd (hu n (by omega))
    show thI rk rl so u d s T n j + _ ≤ _
    split <;> (rw [Nat.add_mul]; omega)
theorem thO_le {rk rl so : Nat} {u d : Nat → Nat} {B : Nat} (hu : ∀ n, n < 5 → u n ≤ 10) : ∀ s, (∀ j, j < s → d j ≤ B) → ∀ j, thO rk rl so u d s j ≤ s * (4 * (B * 10))
  | 0, _, j => by simp [thO]
  | s + 1, hd, j => by
    have h := thI_le (rk := rk) (rl := rl) (so := so) (T := thO rk rl so u d s) hu (hd s (by omega)) (thO_le hu s (fun j hj => hd j (by omega))) 4 (Nat.le_refl 4) j
    show thI rk rl so u d s _ 4 j ≤ _
    rw [Nat.add_mul, Nat.one_mul]
    exact h
theorem sgO_le {S M B : Nat} {d : Nat → Nat} : ∀ s, (∀ j, j < s → d j ≤ B) → ∀ j, sgO S M d s j ≤ s * B
  | 0, _, j => by simp [sgO]
  | s + 1, hd, j => by
    have h := sgO_le (S := S) (M := M) s (fun j hj => hd j (by omega)) j
    have h2 := hd s (by omega)
    show sgO S M d s j + _ ≤ _
    rw [Nat.add_mul, Nat.one_mul]
    (repeat' split) <;> omega
/-- the model's own cells of a pass -/
def FG (h h' : PH) : Prop := (∀ c, c ≠ 158 → c ≠ 173 → c ≠ 174 → c ≠ 175 → h'.1 c = h.1 c ∧ h'.2.1 c = h.2.1 c) ∧ (∀ k, (k < 27 ∨ 31 < k) → h'.1 158 k = h.1 158 k) ∧ (∀ k, k ≠ 38 → h'.2.1 158 k = h.2.1 158 k) ∧ h'.2.2 = h.2.2
theorem FG.rf {h : PH} : FG h h := ⟨fun _ _ _ _ _ => ⟨rfl, rfl⟩, fun _ _ => rfl, fun _ _ => rfl, rfl⟩
theorem FG.tr {h h1 h2 : PH} (a : FG h h1) (b : FG h1 h2) : FG h h2 := ⟨fun c x1 x2 x3 x4 => ⟨((b.1 c x1 x2 x3 x4).1).trans (a.1 c x1 x2 x3 x4).1, ((b.1 c x1 x2 x3 x4).2).trans (a.1 c x1 x2 x3 x4).2⟩, fun k hk => (b.2.1 k hk).trans (a.2.1 k hk), fun k hk => (b.2.2.1 k hk).trans (a.2.2.1 k hk), b.2.2.2.trans a.2.2.2⟩
theorem FG.i {h h' : PH} (a : FG h h') {c k : Nat} (h1 : c ≠ 158) (h2 : c ≠ 173) (h3 : c ≠ 174) (h4 : c ≠ 175) : h'.1 c k = h.1 c k := congrFun (a.1 c h1 h2 h3 h4).1 k
theorem FG.l {h h' : PH} (a : FG h h') {c k : Nat} (h1 : c ≠ 158) (h2 : c ≠ 173) (h3 : c ≠ 174) (h4 : c ≠ 175) : h'.2.1 c k = h.2.1 c k := congrFun (a.1 c h1 h2 h3 h4).2 k
theorem FG.g {h h' : PH} (a : FG h h') (hG : GR h.2.2) : GR h'.2.2 := by rw [a.2.2.2]; exact hG
theorem FG.w {h : PH} {c : Nat} {g : Nat → Int64} (hc : c = 173 ∨ c = 174 ∨ c = 175) : FG h (wL h c g) := ⟨fun a x1 x2 x3 x4 => ⟨rfl, rWL_c (by omega)⟩, fun _ _ => rfl, fun k _ => congrFun (rWL_c (by omega)) k, rfl⟩
theorem FG.f {h : PH} {k : Nat} {x : Int32} (hk : 27 ≤ k) (hk2 : k ≤ 31) : FG h (sI h 158 k x) := ⟨fun a x1 x2 x3 x4 => ⟨rW_c (by omega), rfl⟩, fun j hj => rI_k (by omega), fun _ _ => rfl, rfl⟩
theorem FG.cm {h : PH} {x : Int64} : FG h (sL h 158 38 x) := ⟨fun a x1 x2 x3 x4 => ⟨rfl, rWL_c (by omega)⟩, fun _ _ => rfl, fun j hj => rL_k hj, rfl⟩
theorem TM.fg {h h' : PH} {t rk rl so : Nat} (a : TM h t rk rl so) (f : FG h h') : TM h' t rk rl so := ⟨(f.i (by decide) (by decide) (by decide) (by decide)).trans a.1, (f.i (by decide) (by decide) (by decide) (by decide)).trans a.2.1, (f.i (by decide) (by decide) (by decide) (by decide)).trans a.2.2.1, a.2.2.2⟩
theorem WM.fg {h h' : PH} {t w : Nat} {u : Nat → Nat} (a : WM h t w u) (f : FG h h') : WM h' t w u := fun n hn => ⟨(f.i (by decide) (by decide) (by decide) (by decide)).trans (a n hn).1, (a n hn).2⟩
theorem lN_nle {a : Nat} (h : 0 < a) (hb : a < 2 ^ 63) : ¬ lN a ≤ 0 := by
  intro q
  have := (pk_lLE (a := a) (b := 0) hb (by decide)).mp q
  omega
theorem lN_n0 {a : Nat} (h : 0 < a) (hb : a < 2 ^ 63) : ¬ lN a = 0 := by
  intro q
  have := (pk_lEQ (a := a) (b := 0) hb (by decide)).mp q
  omega
def dS (sf S M kk : Nat) (d : Nat → Nat) : Nat → Nat := if sf = kk + 1 then sgO S M d 64 else d
def DW (rk rl so : Nat) (u : Nat → Nat) (sf S M fr st : Nat) : Nat → Nat → Nat
  | 0 => fun j => if j = st then 1 else 0
  | i + 1 => thO rk rl so u (dS sf S M (fr + i) (DW rk rl so u sf S M fr st i)) 64
def MW (c : Nat → Nat → Nat) (rk rl so : Nat) (u : Nat → Nat) (sf S M fr st W : Nat) : Nat → Int64
  | 0 => 0
  | i + 1 => mnO c u (dS sf S M (fr + i) (DW rk rl so u sf S M fr st i)) (tenL (W - (fr + i) - 1)) (MW c rk rl so u sf S M fr st W i) 64
def CW (rk rl so : Nat) (u : Nat → Nat) (sf S M fr st W : Nat) : Nat → Int64
  | 0 => 0
  | i + 1 => if sf = fr + i + 1 then sgC S M (DW rk rl so u sf S M fr st i) (tenL (W - (fr + i))) (CW rk rl so u sf S M fr st W i) 64 else CW rk rl so u sf S M fr st W i
theorem DW_bd {rk rl so sf S M fr st : Nat} {u : Nat → Nat} (hu : ∀ n, n < 5 → u n ≤ 10) : ∀ i j, DW rk rl so u sf S M fr st i j ≤ (if sf ≤ fr + i then 64 else 1) * 2560 ^ i
  | 0, j => by
    unfold DW
    (repeat' split) <;> simp
  | i + 1, j => by
    have hd : ∀ j, dS sf S M (fr + i) (DW rk rl so u sf S M fr st i) j ≤ (if sf ≤ fr + (i + 1) then 64 else 1) * 2560 ^ i := by
      intro j
      have h0 := DW_bd (rk := rk) (rl := rl) (so := so) (sf := sf) (S := S) (M := M) (fr := fr) (st := st) hu i
      unfold dS
      by_cases e : sf = fr + i + 1
      · rw [if_pos e, if_pos (by omega)]
        have h1 := sgO_le (S := S) (M := M) (B := 2560 ^ i) (d := DW rk rl so u sf S M fr st i) 64 (fun j _ => by have := h0 j; rw [if_neg (by omega)] at this; omega) j
        omega
      · rw [if_neg e]
        have h1 := h0 j
        by_cases q : sf ≤ fr + i
        · rw [if_pos q] at h1
          rw [if_pos (by omega)]
          exact h1
        · rw [if_neg q] at h1
          rw [if_neg (by omega)]
          exact h1
    have h2 := thO_le (rk := rk) (rl := rl) (so := so) hu 64 (fun j _ => hd j) j
    show thO rk rl so u _ 64 j ≤ _
    refine Nat.le_trans h2 ?_
    rw [Nat.pow_succ]
    have e : (if sf ≤ fr + (i + 1) then 64 else 1) * (2560 ^ i * 2560) = (if sf ≤ fr + (i + 1) then 64 else 1) * 2560 ^ i * 2560 := (Nat.mul_assoc _ _ _).symm
    rw [e]
    omega
theorem pw_le {i : Nat} (h : i ≤ 4) : 64 * 2560 ^ i ≤ 2748779069440000 := by
  have : 2560 ^ i ≤ 2560 ^ 4 := Nat.pow_le_pow_right (by decide) h
  omega
theorem dS_bd {rk rl so sf S M fr st i : Nat} {u : Nat → Nat} (hu : ∀ n, n < 5 → u n ≤ 10) (hi : i ≤ 4) (j : Nat) : dS sf S M (fr + i) (DW rk rl so u sf S M fr st i) j < 2 ^ 56 := by
  have h0 := DW_bd (rk := rk) (rl := rl) (so := so) (sf := sf) (S := S) (M := M) (fr := fr) (st := st) hu i
  have hp := pw_le hi
  unfold dS
  by_cases e : sf = fr + i + 1
  · rw [if_pos e]
    have h1 := sgO_le (S := S) (M := M) (B := 2560 ^ i) (d := DW rk rl so u sf S M fr st i) 64 (fun j _ => by have := h0 j; rw [if_neg (by omega)] at this; omega) j
    omega
  · rw [if_neg e]
    have h1 := h0 j
    split at h1 <;> omega
theorem DW_bd2 {rk rl so sf S M fr st i : Nat} {u : Nat → Nat} (hu : ∀ n, n < 5 → u n ≤ 10) (hi : i ≤ 4) (j : Nat) : DW rk rl so u sf S M fr st i j < 2 ^ 56 := by
  have h0 := DW_bd (rk := rk) (rl := rl) (so := so) (sf := sf) (S := S) (M := M) (fr := fr) (st := st) hu i j
  have hp := pw_le hi
  split at h0 <;> omega
theorem thI_sup {rk rl so : Nat} {u d T : Nat → Nat} {s B : Nat} (hs : s ≤ B) (hT : ∀ j, B < j → T j = 0) : ∀ n j, B < j → thI rk rl so u d s T n j = 0
  | 0, j, hj => hT j hj
  | n + 1, j, hj => by
    show thI rk rl so u d s T n j + _ = 0
    rw [thI_sup hs hT n j hj, if_neg (by have := nx_le rk rl so (u 4) s n; omega)]
theorem thO_sup {rk rl so : Nat} {u d : Nat → Nat} {B : Nat} (hd : ∀ j, B < j → d j = 0) : ∀ s j, B < j → thO rk rl so u d s j = 0
  | 0, j, hj => rfl
  | s + 1, j, hj => by
    show thI rk rl so u d s _ 4 j = 0
    by_cases q : s ≤ B
    · exact thI_sup q (thO_sup hd s) 4 j hj
    · rw [thI_0 (hd s (by omega))]
      exact thO_sup hd s j hj
theorem DW_sup {rk rl so sf S M fr st : Nat} {u : Nat → Nat} : ∀ i, (sf = 0 ∨ fr + i < sf) → ∀ j, st < j → DW rk rl so u sf S M fr st i j = 0
  | 0, _, j, hj => by
    show (if j = st then 1 else 0) = 0
    rw [if_neg (by omega)]
  | i + 1, h, j, hj => by
    show thO rk rl so u (dS sf S M (fr + i) _) 64 j = 0
    refine thO_sup (fun j hj => ?_) 64 j hj
    unfold dS
    rw [if_neg (by omega)]
    exact DW_sup i (by omega) j hj
theorem hlp_eq {a sf : Nat} (ha : a < 2 ^ 30) (hs : sf < 2 ^ 30) : nI a = hlp sf ↔ sf = a + 1 := by
  cases sf with
  | zero =>
    constructor
    · intro h
      have h2 := congrArg Int32.toInt h
      rw [nI_toInt (by omega)] at h2
      have h3 : (hlp 0).toInt = -1 := by decide
      omega
    · intro h; omega
  | succ k =>
    show nI a = nI k ↔ _
    rw [nI_eq (by omega) (by omega)]
    omega
theorem sL_id {h : PH} {c k : Nat} {x : Int64} (e : h.2.1 c k = x) : sL h c k x = h := by
  have : vp_updL (h.2.1 c) k x = h.2.1 c := by
    funext j
    unfold vp_updL
    split
    · rename_i q; rw [q, e]
    · rfl
  unfold sL
  rw [this, wL_id]
theorem sL_sL {h : PH} {c k : Nat} {x y : Int64} : sL (sL h c k x) c k y = sL h c k y := by
  unfold sL
  rw [rWL_s, wL_wL]
  congr 1
  funext j
  unfold vp_updL
  split <;> rfl
theorem sL64_congr {f g : Nat → Int64} : ∀ n, (∀ i, i < n → f i = g i) → sL64 f n = sL64 g n
  | 0, _ => rfl
  | n + 1, h => by
    show sL64 f n + f n = sL64 g n + g n
    rw [sL64_congr n (fun i hi => h i (by omega)), h n (by omega)]
