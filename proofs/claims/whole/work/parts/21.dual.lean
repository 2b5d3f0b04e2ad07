/-! ===== forwards and backwards come to the same ===== -/
theorem sum_ite_out {T : Nat → Nat} {f : Nat → Int64} {a x : Nat} : ∀ N, N ≤ a → sL64 (fun j => lN (T j + (if j = a then x else 0)) * f j) N = sL64 (fun j => lN (T j) * f j) N
  | 0, _ => rfl
  | N + 1, h => by
    show sL64 _ N + lN (T N + (if N = a then x else 0)) * f N = sL64 _ N + lN (T N) * f N
    rw [sum_ite_out N (by omega), if_neg (by omega), Nat.add_zero]
theorem sum_ite_in {T : Nat → Nat} {f : Nat → Int64} {a x : Nat} : ∀ N, a < N → sL64 (fun j => lN (T j + (if j = a then x else 0)) * f j) N = sL64 (fun j => lN (T j) * f j) N + lN x * f a
  | 0, h => absurd h (Nat.not_lt_zero a)
  | N + 1, h => by
    show sL64 _ N + lN (T N + (if N = a then x else 0)) * f N = sL64 _ N + lN (T N) * f N + lN x * f a
    by_cases e : N = a
    · subst e
      rw [sum_ite_out N (Nat.le_refl N), if_pos rfl, ← lN_add]
      grind
    · rw [sum_ite_in N (by omega), if_neg e, Nat.add_zero]
      grind
theorem thI_sum {rk rl so s : Nat} {u d T : Nat → Nat} {f : Nat → Int64} (hs : s < 64) : ∀ n, sL64 (fun j => lN (thI rk rl so u d s T n j) * f j) 64 = sL64 (fun j => lN (T j) * f j) 64 + lN (d s) * sL64 (fun m => lN (u m) * f (nxN rk rl so (u 4) s m)) n
  | 0 => by
    show sL64 (fun j => lN (T j) * f j) 64 = _ + lN (d s) * 0
    grind
  | n + 1 => by
    have h := sum_ite_in (T := thI rk rl so u d s T n) (f := f) (a := nxN rk rl so (u 4) s n) (x := d s * u n) 64 (by have := nx_le rk rl so (u 4) s n; omega)
    have h2 := thI_sum (rk := rk) (rl := rl) (so := so) (u := u) (d := d) (T := T) (f := f) hs n
    show sL64 (fun j => lN (thI rk rl so u d s T n j + (if j = nxN rk rl so (u 4) s n then d s * u n else 0)) * f j) 64 = _ + lN (d s) * (sL64 _ n + lN (u n) * f (nxN rk rl so (u 4) s n))
    rw [h, h2, ← lN_mul]
    grind
theorem thO_sum {rk rl so : Nat} {u d : Nat → Nat} {f : Nat → Int64} : ∀ s, s ≤ 64 → sL64 (fun j => lN (thO rk rl so u d s j) * f j) 64 = sL64 (fun i => lN (d i) * sL64 (fun m => lN (u m) * f (nxN rk rl so (u 4) i m)) 4) s
  | 0, _ => by
    have : ∀ N, sL64 (fun j => lN (thO rk rl so u d 0 j) * f j) N = 0 := by
      intro N
      induction N with
      | zero => rfl
      | succ N ih =>
        show sL64 _ N + lN 0 * f N = 0
        rw [ih, lN_0]
        grind
    exact this 64
  | s + 1, h => by
    show sL64 (fun j => lN (thI rk rl so u d s (thO rk rl so u d s) 4 j) * f j) 64 = sL64 _ s + _
    rw [thI_sum (by omega), thO_sum s (by omega)]
theorem mnI_sum {c : Nat → Nat → Nat} {u d : Nat → Nat} {r m : Int64} {s : Nat} : ∀ n, mnI c u d r s m n = m + r * (lN (d s) * sL64 (fun k => lN (u k) * lN (c s k)) n)
  | 0 => by
    show m = m + r * (lN (d s) * 0)
    grind
  | n + 1 => by
    show mnI c u d r s m n + lN (d s * u n) * r * lN (c s n) = m + r * (lN (d s) * (sL64 _ n + lN (u n) * lN (c s n)))
    rw [mnI_sum n, ← lN_mul]
    grind
theorem mnO_sum {c : Nat → Nat → Nat} {u d : Nat → Nat} {r m : Int64} : ∀ s, mnO c u d r m s = m + r * sL64 (fun i => lN (d i) * sL64 (fun k => lN (u k) * lN (c i k)) 4) s
  | 0 => by
    show m = m + r * 0
    grind
  | s + 1 => by
    show mnI c u d r s (mnO c u d r m s) 4 = m + r * (sL64 _ s + _)
    rw [mnI_sum 4, mnO_sum s]
    grind
abbrev cgv (rk rl : Nat) (u : Nat → Nat) : Nat → Nat → Nat := fun s n => gvN rk rl s n (u 4)
abbrev clk (u : Nat → Nat) : Nat → Nat → Nat := fun s n => lkN s n (u 4)
abbrev cms (rk rl : Nat) (u : Nat → Nat) : Nat → Nat → Nat := fun s n => msN rk rl s n (u 4)
abbrev csl (rk rl so : Nat) (u : Nat → Nat) : Nat → Nat → Nat := fun s n => slN so (rsN rk rl s n (u 4))
theorem vbN_sum {rk rl so : Nat} {u : Nat → Nat} {pg pl pm ps ways : Int64} {V : Nat → Int64} {s : Nat} : ∀ n, vbN rk rl so u 0 pg pl pm ps ways V s n = ways * (pg * sL64 (fun k => lN (u k) * lN (cgv rk rl u s k)) n + pl * sL64 (fun k => lN (u k) * lN (clk u s k)) n + pm * sL64 (fun k => lN (u k) * lN (cms rk rl u s k)) n + ps * sL64 (fun k => lN (u k) * lN (csl rk rl so u s k)) n) + sL64 (fun m => lN (u m) * V (nxN rk rl so (u 4) s m)) n
  | 0 => by
    show (0 : Int64) = ways * (pg * 0 + pl * 0 + pm * 0 + ps * 0) + 0
    grind
  | n + 1 => by
    show vbN rk rl so u 0 pg pl pm ps ways V s n + lN (u n) * wkv rk rl so (u 4) 0 pg pl pm ps ways V s n = _
    rw [vbN_sum n]
    have e : wkv rk rl so (u 4) 0 pg pl pm ps ways V s n = (pg * lN (cgv rk rl u s n) + pl * lN (clk u s n) + pm * lN (cms rk rl u s n) + ps * lN (csl rk rl so u s n)) * ways + V (nxN rk rl so (u 4) s n) := by
      unfold wkv wv
      rw [if_neg (by decide)]
      rfl
    rw [e]
    show _ = ways * (pg * (sL64 _ n + lN (u n) * lN (cgv rk rl u s n)) + pl * (sL64 _ n + lN (u n) * lN (clk u s n)) + pm * (sL64 _ n + lN (u n) * lN (cms rk rl u s n)) + ps * (sL64 _ n + lN (u n) * lN (csl rk rl so u s n))) + (sL64 _ n + lN (u n) * V (nxN rk rl so (u 4) s n))
    grind
theorem sum_lin {d : Nat → Nat} {w pg pl pm ps : Int64} {a b c e g : Nat → Int64} : ∀ N, sL64 (fun i => lN (d i) * (w * (pg * a i + pl * b i + pm * c i + ps * e i) + g i)) N = w * (pg * sL64 (fun i => lN (d i) * a i) N + pl * sL64 (fun i => lN (d i) * b i) N + pm * sL64 (fun i => lN (d i) * c i) N + ps * sL64 (fun i => lN (d i) * e i) N) + sL64 (fun i => lN (d i) * g i) N
  | 0 => by
    show (0 : Int64) = w * (pg * 0 + pl * 0 + pm * 0 + ps * 0) + 0
    grind
  | N + 1 => by
    show sL64 _ N + lN (d N) * (w * (pg * a N + pl * b N + pm * c N + ps * e N) + g N) = w * (pg * (sL64 _ N + lN (d N) * a N) + pl * (sL64 _ N + lN (d N) * b N) + pm * (sL64 _ N + lN (d N) * c N) + ps * (sL64 _ N + lN (d N) * e N)) + (sL64 _ N + lN (d N) * g N)
    rw [sum_lin N]
    grind
/-- one week: what a distribution is worth before it, and what it brings and is worth behind it -/
theorem dual1 {rk rl so : Nat} {u d : Nat → Nat} {pg pl pm ps ways r m0 m1 m2 m3 : Int64} {V : Nat → Int64} {x : Int64} (hr : ways = x * r) :
    x * (pg * m0 + pl * m1 + pm * m2 + ps * m3) + sL64 (fun s => lN (d s) * vbN rk rl so u 0 pg pl pm ps ways V s 4) 64 = x * (pg * mnO (cgv rk rl u) u d r m0 64 + pl * mnO (clk u) u d r m1 64 + pm * mnO (cms rk rl u) u d r m2 64 + ps * mnO (csl rk rl so u) u d r m3 64) + sL64 (fun j => lN (thO rk rl so u d 64 j) * V j) 64 := by
  rw [mnO_sum 64, mnO_sum 64, mnO_sum 64, mnO_sum 64, thO_sum 64 (Nat.le_refl 64)]
  have h : sL64 (fun s => lN (d s) * vbN rk rl so u 0 pg pl pm ps ways V s 4) 64 = sL64 (fun s => lN (d s) * (ways * (pg * sL64 (fun k => lN (u k) * lN (cgv rk rl u s k)) 4 + pl * sL64 (fun k => lN (u k) * lN (clk u s k)) 4 + pm * sL64 (fun k => lN (u k) * lN (cms rk rl u s k)) 4 + ps * sL64 (fun k => lN (u k) * lN (csl rk rl so u s k)) 4) + sL64 (fun m => lN (u m) * V (nxN rk rl so (u 4) s m)) 4)) 64 := sL64_congr 64 (fun i _ => by rw [vbN_sum 4])
  rw [h, sum_lin 64, hr]
  grind
abbrev mwS (rk rl so : Nat) (u : Nat → Nat) (sf S M fr st W : Nat) (pg pl pm ps : Int64) (i : Nat) : Int64 := pg * MW (cgv rk rl u) rk rl so u sf S M fr st W i + pl * MW (clk u) rk rl so u sf S M fr st W i + pm * MW (cms rk rl u) rk rl so u sf S M fr st W i + ps * MW (csl rk rl so u) rk rl so u sf S M fr st W i
/-- from the i-th week on to the j-th, no sledge between -/
theorem dualN {rk rl so sf S M fr st W : Nat} {u : Nat → Nat} {pg pl pm ps x : Int64} {e : Nat → Int64} (j : Nat) (hW : fr + j ≤ W) (y : Int64) (hy : y = x * tenL (W - (fr + j))) : ∀ n i, i + n = j → (∀ k, i ≤ k → k < j → sf ≠ fr + k + 1) →
    x * mwS rk rl so u sf S M fr st W pg pl pm ps i + sL64 (fun s => lN (DW rk rl so u sf S M fr st i s) * VB rk rl so u 0 pg pl pm ps y e n s) 64 = x * mwS rk rl so u sf S M fr st W pg pl pm ps j + sL64 (fun s => lN (DW rk rl so u sf S M fr st j s) * e s) 64
  | 0, i, hi, _ => by
    have : i = j := by omega
    subst this
    rfl
  | n + 1, i, hi, hs => by
    have h := dualN (rk := rk) (rl := rl) (so := so) (sf := sf) (S := S) (M := M) (fr := fr) (st := st) (W := W) (u := u) (pg := pg) (pl := pl) (pm := pm) (ps := ps) (x := x) (e := e) j hW y hy n (i + 1) (by omega) (fun k h1 h2 => hs k (by omega) h2)
    rw [← h]
    have hd : dS sf S M (fr + i) (DW rk rl so u sf S M fr st i) = DW rk rl so u sf S M fr st i := by
      unfold dS
      rw [if_neg (hs i (Nat.le_refl i) (by omega))]
    have ht : y * tenL n = x * tenL (W - (fr + i) - 1) := by
      rw [hy, Int64.mul_assoc]
      congr 1
      have : W - (fr + i) - 1 = (W - (fr + j)) + n := by omega
      rw [this]
      have key : ∀ a b, tenL a * tenL b = tenL (a + b) := by
        intro a b
        induction b with
        | zero => show tenL a * 1 = tenL a; grind
        | succ b ih =>
          show tenL a * (tenL b * 10) = tenL (a + b) * 10
          rw [← ih]
          grind
      exact key _ _
    have h1 := dual1 (rk := rk) (rl := rl) (so := so) (u := u) (d := DW rk rl so u sf S M fr st i) (pg := pg) (pl := pl) (pm := pm) (ps := ps) (ways := y * tenL n) (r := tenL (W - (fr + i) - 1)) (m0 := MW (cgv rk rl u) rk rl so u sf S M fr st W i) (m1 := MW (clk u) rk rl so u sf S M fr st W i) (m2 := MW (cms rk rl u) rk rl so u sf S M fr st W i) (m3 := MW (csl rk rl so u) rk rl so u sf S M fr st W i) (V := VB rk rl so u 0 pg pl pm ps y e n) (x := x) ht
    show x * mwS rk rl so u sf S M fr st W pg pl pm ps i + sL64 (fun s => lN (DW rk rl so u sf S M fr st i s) * vbN rk rl so u 0 pg pl pm ps (y * tenL n) (VB rk rl so u 0 pg pl pm ps y e n) s 4) 64 = _
    rw [h1]
    show _ = x * (pg * mnO (cgv rk rl u) u (dS sf S M (fr + i) (DW rk rl so u sf S M fr st i)) _ _ 64 + pl * mnO (clk u) u (dS sf S M (fr + i) (DW rk rl so u sf S M fr st i)) _ _ 64 + pm * mnO (cms rk rl u) u (dS sf S M (fr + i) (DW rk rl so u sf S M fr st i)) _ _ 64 + ps * mnO (csl rk rl so u) u (dS sf S M (fr + i) (DW rk rl so u sf S M fr st i)) _ _ 64) + sL64 (fun s => lN (thO rk rl so u (dS sf S M (fr + i) (DW rk rl so u sf S M fr st i)) 64 s) * _) 64
    rw [hd]
theorem sum_delta {f : Nat → Int64} {st : Nat} : ∀ N, st < N → sL64 (fun s => lN (if s = st then 1 else 0) * f s) N = f st := by
  intro N h
  have h2 := sum_ite_in (T := fun _ => 0) (f := f) (a := st) (x := 1) N h
  have h3 : ∀ N, sL64 (fun j => lN 0 * f j) N = 0 := by
    intro N
    induction N with
    | zero => rfl
    | succ N ih =>
      show sL64 _ N + lN 0 * f N = 0
      rw [ih, lN_0]
      grind
  rw [h3] at h2
  simp only [Nat.zero_add] at h2
  rw [h2]
  show 0 + lN 1 * f st = f st
  have : lN 1 = 1 := rfl
  rw [this]
  grind
theorem mw0 {rk rl so sf S M fr st W : Nat} {u : Nat → Nat} {pg pl pm ps : Int64} : mwS rk rl so u sf S M fr st W pg pl pm ps 0 = 0 := by
  show pg * 0 + pl * 0 + pm * 0 + ps * 0 = 0
  grind
/-- without a sledge: backwards is forwards -/
theorem dual {rk rl so S M fr st W : Nat} {u : Nat → Nat} {pg pl pm ps x : Int64} {e : Nat → Int64} (hst : st < 64) (hfr : fr ≤ W) : VB rk rl so u 0 pg pl pm ps x e (W - fr) st = x * mwS rk rl so u 0 S M fr st W pg pl pm ps (W - fr) + sL64 (fun s => lN (DW rk rl so u 0 S M fr st (W - fr) s) * e s) 64 := by
  have h := dualN (rk := rk) (rl := rl) (so := so) (sf := 0) (S := S) (M := M) (fr := fr) (st := st) (W := W) (u := u) (pg := pg) (pl := pl) (pm := pm) (ps := ps) (x := x) (e := e) (W - fr) (by omega) x (by rw [show W - (fr + (W - fr)) = 0 by omega]; show x = x * 1; grind) (W - fr) 0 (by omega) (fun k _ _ => by omega)
  rw [← h, mw0]
  show _ = x * 0 + sL64 (fun s => lN (if s = st then 1 else 0) * VB rk rl so u 0 pg pl pm ps x e (W - fr) s) 64
  rw [sum_delta 64 hst]
  grind
