/-! ===== safety forwards ===== -/
def tsI (rk rl so : Nat) (u d : Nat → Nat) (s : Nat) (T : Nat → Nat) : Nat → Nat → Nat
  | 0 => T
  | n + 1 => fun j => tsI rk rl so u d s T n j + (if j = nxN rk rl so (u 4) s n then (if lkN s n (u 4) = 0 then d s * u n else 0) else 0)
def tsO (rk rl so : Nat) (u d : Nat → Nat) : Nat → Nat → Nat
  | 0 => fun _ => 0
  | s + 1 => tsI rk rl so u d s (tsO rk rl so u d s) 4
theorem tsI_0 {rk rl so : Nat} {u d : Nat → Nat} {s : Nat} {T : Nat → Nat} (h : d s = 0) : ∀ n, tsI rk rl so u d s T n = T
  | 0 => rfl
  | n + 1 => by
    funext j
    show tsI rk rl so u d s T n j + _ = T j
    rw [tsI_0 h n, h]
    simp
theorem tsI_le {rk rl so : Nat} {u d T : Nat → Nat} {s A B : Nat} (hu : ∀ n, n < 5 → u n ≤ 10) (hd : d s ≤ B) (hT : ∀ j, T j ≤ A) : ∀ n, n ≤ 4 → ∀ j, tsI rk rl so u d s T n j ≤ A + n * (B * 10)
  | 0, _, j => by have := hT j; simpa [tsI] using this
  | n + 1, hn, j => by
    have h1 := tsI_le (rk := rk) (rl := rl) (so := so) hu hd hT n (by omega) j
    have h2 : d s * u n ≤ B * 10 := Nat.mul_le_mul hd (hu n (by omega))
    show tsI rk rl so u d s T n j + _ ≤ _
    rw [Nat.add_mul]
    (repeat' split) <;> omega
theorem tsO_le {rk rl so : Nat} {u d : Nat → Nat} {B : Nat} (hu : ∀ n, n < 5 → u n ≤ 10) : ∀ s, (∀ j, j < s → d j ≤ B) → ∀ j, tsO rk rl so u d s j ≤ s * (4 * (B * 10))
  | 0, _, j => by simp [tsO]
  | s + 1, hd, j => by
    have h := tsI_le (rk := rk) (rl := rl) (so := so) (T := tsO rk rl so u d s) hu (hd s (by omega)) (tsO_le hu s (fun j hj => hd j (by omega))) 4 (Nat.le_refl 4) j
    show tsI rk rl so u d s _ 4 j ≤ _
    rw [Nat.add_mul, Nat.one_mul]
    exact h
def DF (rk rl so : Nat) (u : Nat → Nat) (st : Nat) : Nat → Nat → Nat
  | 0 => fun j => if j = st then 1 else 0
  | i + 1 => tsO rk rl so u (DF rk rl so u st i) 64
theorem DF_bd {rk rl so st : Nat} {u : Nat → Nat} (hu : ∀ n, n < 5 → u n ≤ 10) : ∀ i j, DF rk rl so u st i j ≤ 2560 ^ i
  | 0, j => by
    unfold DF
    split <;> simp
  | i + 1, j => by
    have h2 := tsO_le (rk := rk) (rl := rl) (so := so) hu 64 (fun j _ => DF_bd (rk := rk) (rl := rl) (so := so) (st := st) hu i j) j
    show tsO rk rl so u _ 64 j ≤ _
    rw [Nat.pow_succ]
    omega
theorem DF_bd2 {rk rl so st i : Nat} {u : Nat → Nat} (hu : ∀ n, n < 5 → u n ≤ 10) (hi : i ≤ 4) (j : Nat) : DF rk rl so u st i j < 2 ^ 56 := by
  have h := DF_bd (rk := rk) (rl := rl) (so := so) (st := st) hu i j
  have hp := pw_le hi
  omega
theorem tsI_sum {rk rl so s : Nat} {u d T : Nat → Nat} {f : Nat → Int64} (hs : s < 64) : ∀ n, sL64 (fun j => lN (tsI rk rl so u d s T n j) * f j) 64 = sL64 (fun j => lN (T j) * f j) 64 + lN (d s) * vbN rk rl so u 1 0 0 0 0 0 f s n
  | 0 => by
    show sL64 (fun j => lN (T j) * f j) 64 = _ + lN (d s) * 0
    grind
  | n + 1 => by
    have h := sum_ite_in (T := tsI rk rl so u d s T n) (f := f) (a := nxN rk rl so (u 4) s n) (x := if lkN s n (u 4) = 0 then d s * u n else 0) 64 (by have := nx_le rk rl so (u 4) s n; omega)
    have h2 := tsI_sum (rk := rk) (rl := rl) (so := so) (u := u) (d := d) (T := T) (f := f) hs n
    show sL64 (fun j => lN (tsI rk rl so u d s T n j + (if j = nxN rk rl so (u 4) s n then (if lkN s n (u 4) = 0 then d s * u n else 0) else 0)) * f j) 64 = _ + lN (d s) * (vbN rk rl so u 1 0 0 0 0 0 f s n + lN (u n) * wkv rk rl so (u 4) 1 0 0 0 0 0 f s n)
    rw [h, h2]
    have e : wkv rk rl so (u 4) 1 0 0 0 0 0 f s n = if 0 < lkN s n (u 4) then 0 else f (nxN rk rl so (u 4) s n) := by
      unfold wkv wv
      rw [if_pos rfl]
      rfl
    rw [e]
    by_cases q : lkN s n (u 4) = 0
    · rw [if_pos q, if_neg (by omega), ← lN_mul]
      grind
    · rw [if_neg q, if_pos (by omega), lN_0]
      grind
theorem tsO_sum {rk rl so : Nat} {u d : Nat → Nat} {f : Nat → Int64} : ∀ s, s ≤ 64 → sL64 (fun j => lN (tsO rk rl so u d s j) * f j) 64 = sL64 (fun i => lN (d i) * vbN rk rl so u 1 0 0 0 0 0 f i 4) s
  | 0, _ => by
    have : ∀ N, sL64 (fun j => lN (tsO rk rl so u d 0 j) * f j) N = 0 := by
      intro N
      induction N with
      | zero => rfl
      | succ N ih =>
        show sL64 _ N + lN 0 * f N = 0
        rw [ih, lN_0]
        grind
    exact this 64
  | s + 1, h => by
    show sL64 (fun j => lN (tsI rk rl so u d s (tsO rk rl so u d s) 4 j) * f j) 64 = sL64 _ s + _
    rw [tsI_sum (by omega), tsO_sum s (by omega)]
theorem vb1_any {rk rl so : Nat} {u : Nat → Nat} {a b c d ways : Int64} {V : Nat → Int64} {s : Nat} : ∀ n, vbN rk rl so u 1 a b c d ways V s n = vbN rk rl so u 1 0 0 0 0 0 V s n
  | 0 => rfl
  | n + 1 => by
    rw [vbN, vbN, vb1_any n]
    unfold wkv wv
    rw [if_pos rfl, if_pos rfl]
/-- safety backwards is safety forwards -/
theorem dualF {rk rl so st : Nat} {u : Nat → Nat} {a b c d ways : Int64} {e : Nat → Int64} (N : Nat) : ∀ n i, i + n = N → sL64 (fun s => lN (DF rk rl so u st i s) * VB rk rl so u 1 a b c d ways e n s) 64 = sL64 (fun s => lN (DF rk rl so u st N s) * e s) 64
  | 0, i, hi => by
    have : i = N := by omega
    subst this
    rfl
  | n + 1, i, hi => by
    rw [← dualF (rk := rk) (rl := rl) (so := so) (st := st) (u := u) (a := a) (b := b) (c := c) (d := d) (ways := ways) (e := e) N n (i + 1) (by omega)]
    show _ = sL64 (fun s => lN (tsO rk rl so u (DF rk rl so u st i) 64 s) * VB rk rl so u 1 a b c d ways e n s) 64
    rw [tsO_sum 64 (Nat.le_refl 64)]
    refine sL64_congr 64 (fun s _ => ?_)
    show lN _ * vbN rk rl so u 1 a b c d (ways * tenL n) _ s 4 = _
    rw [vb1_any 4]
theorem dualF0 {rk rl so st k : Nat} {u : Nat → Nat} {a b c d ways pe : Int64} (hst : st < 64) : VB rk rl so u 1 a b c d ways (EV 1 pe) k st = sL64 (fun s => lN (DF rk rl so u st k s)) 64 := by
  have h := dualF (rk := rk) (rl := rl) (so := so) (st := st) (u := u) (a := a) (b := b) (c := c) (d := d) (ways := ways) (e := EV 1 pe) k k 0 (by omega)
  have h2 : sL64 (fun s => lN (DF rk rl so u st k s) * EV 1 pe s) 64 = sL64 (fun s => lN (DF rk rl so u st k s)) 64 := sL64_congr 64 (fun s _ => by show _ * (if 1 = 1 then 1 else _) = _; rw [if_pos rfl]; grind)
  rw [← h2, ← h]
  show _ = sL64 (fun s => lN (if s = st then 1 else 0) * VB rk rl so u 1 a b c d ways (EV 1 pe) k s) 64
  rw [sum_delta 64 hst]
