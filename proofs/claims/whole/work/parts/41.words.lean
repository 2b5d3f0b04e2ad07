/-! ===== the sledge and the second winter: forwards and backwards ===== -/
theorem tenL_add (a : Nat) : ∀ b, tenL a * tenL b = tenL (a + b)
  | 0 => by show tenL a * 1 = tenL a; grind
  | b + 1 => by
    show tenL a * (tenL b * 10) = tenL (a + b) * 10
    rw [← tenL_add a b]
    grind
theorem sgC_lin {S M : Nat} {d : Nat → Nat} {t m : Int64} : ∀ n, sgC S M d t m n = m + t * sL64 (fun s => if s ≤ S then lN (d s) * lN M else 0) n
  | 0 => by show m = m + t * 0; grind
  | n + 1 => by
    show sgC S M d t m n + (if n ≤ S then lN (d n) * t * lN M else 0) = m + t * (sL64 _ n + (if n ≤ S then lN (d n) * lN M else 0))
    rw [sgC_lin n]
    split <;> grind
theorem sum_zero {f : Nat → Int64} : ∀ N, sL64 (fun j => lN 0 * f j) N = 0
  | 0 => rfl
  | N + 1 => by
    show sL64 _ N + lN 0 * f N = 0
    rw [sum_zero N, lN_0]
    grind
theorem sgO_sum {S M : Nat} {d : Nat → Nat} {f : Nat → Int64} (hd : ∀ s, 40 < s → d s = 0) (hM : M ≤ 20) : ∀ n, sL64 (fun j => lN (sgO S M d n j) * f j) 64 = sL64 (fun s => lN (d s) * f (if s ≤ S then s + M else s)) n
  | 0 => sum_zero 64
  | n + 1 => by
    have ih := sgO_sum (S := S) (M := M) (d := d) (f := f) hd hM n
    show sL64 (fun j => lN (sgO S M d n j + (if j = (if n ≤ S then n + M else n) then d n else 0)) * f j) 64 = sL64 _ n + lN (d n) * f (if n ≤ S then n + M else n)
    by_cases q : 40 < n
    · rw [hd n q, lN_0, ← ih]
      have e : sL64 (fun j => lN (sgO S M d n j + (if j = (if n ≤ S then n + M else n) then 0 else 0)) * f j) 64 = sL64 (fun j => lN (sgO S M d n j) * f j) 64 := sL64_congr 64 (fun i _ => by
        have e2 : (if i = (if n ≤ S then n + M else n) then 0 else 0) = 0 := ite_self 0
        rw [e2, Nat.add_zero])
      rw [e]
      grind
    · rw [sum_ite_in 64 (by split <;> omega), ih]
theorem slV_sumN {S M c : Nat} {d : Nat → Nat} {t : Int64} {V : Nat → Int64} : ∀ N, sL64 (fun s => lN (d s) * slV V S M c t s) N = sL64 (fun s => lN (d s) * V (if s ≤ S then s + M else s)) N - lN c * (t * sL64 (fun s => if s ≤ S then lN (d s) * lN M else 0) N)
  | 0 => by show (0 : Int64) = 0 - lN c * (t * 0); grind
  | N + 1 => by
    show sL64 _ N + lN (d N) * slV V S M c t N = sL64 _ N + lN (d N) * V (if N ≤ S then N + M else N) - lN c * (t * (sL64 _ N + (if N ≤ S then lN (d N) * lN M else 0)))
    rw [slV_sumN N]
    unfold slV
    by_cases q : N ≤ S
    · rw [if_pos q, if_pos q, if_pos q, ← lN_mul]
      grind
    · rw [if_neg q, if_neg q, if_neg q]
      grind
theorem slV_sum {S M c : Nat} {d : Nat → Nat} {t : Int64} {V : Nat → Int64} (hd : ∀ s, 40 < s → d s = 0) (hM : M ≤ 20) : sL64 (fun s => lN (d s) * slV V S M c t s) 64 = sL64 (fun j => lN (sgO S M d 64 j) * V j) 64 - lN c * sgC S M d t 0 64 := by
  rw [slV_sumN, sgO_sum hd hM, sgC_lin]
  grind
theorem CW_lo {rk rl so f S M st W : Nat} {u : Nat → Nat} : ∀ i, i ≤ f → CW rk rl so u (f + 1) S M 0 st W i = 0
  | 0, _ => rfl
  | i + 1, h => by
    show (if f + 1 = 0 + i + 1 then _ else CW rk rl so u (f + 1) S M 0 st W i) = 0
    rw [if_neg (by omega), CW_lo i (by omega)]
theorem CW_hi {rk rl so f S M st W : Nat} {u : Nat → Nat} : ∀ i, CW rk rl so u (f + 1) S M 0 st W (f + 1 + i) = sgC S M (DW rk rl so u (f + 1) S M 0 st f) (tenL (W - f)) 0 64
  | 0 => by
    show (if f + 1 = 0 + f + 1 then sgC S M (DW rk rl so u (f + 1) S M 0 st f) (tenL (W - (0 + f))) (CW rk rl so u (f + 1) S M 0 st W f) 64 else _) = _
    rw [if_pos (by omega), CW_lo f (Nat.le_refl f), Nat.zero_add]
  | i + 1 => by
    show (if f + 1 = 0 + (f + 1 + i) + 1 then _ else CW rk rl so u (f + 1) S M 0 st W (f + 1 + i)) = _
    rw [if_neg (by omega), CW_hi i]
theorem sgW_eq {a : Nat → Nat} {rk rl f S M c W q : Nat} {u : Nat → Nat} (hf : f < W) (hM : M ≤ 20) (hq : q ≤ 40) : sgW a rk rl u f S M c W q = vF a rk rl u (f + 1) S M 0 q W - lN c * CW rk rl (a 5) u (f + 1) S M 0 q W W := by
  have h1 := dualN (rk := rk) (rl := rl) (so := a 5) (sf := f + 1) (S := S) (M := M) (fr := 0) (st := q) (W := W) (u := u) (pg := lN (a 2)) (pl := -lN (a 3)) (pm := 0) (ps := 0) (x := 1) (e := slV (VB rk rl (a 5) u 0 (lN (a 2)) (-lN (a 3)) 0 0 1 (EV 0 (lN (a 4))) (W - f)) S M c (tenL (W - f))) f (by omega) (tenL (W - f)) (by rw [Nat.zero_add]; grind) f 0 (by omega) (fun k _ _ => by omega)
  rw [mw0] at h1
  have h0 : sL64 (fun s => lN (DW rk rl (a 5) u (f + 1) S M 0 q 0 s) * VB rk rl (a 5) u 0 (lN (a 2)) (-lN (a 3)) 0 0 (tenL (W - f)) (slV (VB rk rl (a 5) u 0 (lN (a 2)) (-lN (a 3)) 0 0 1 (EV 0 (lN (a 4))) (W - f)) S M c (tenL (W - f))) f s) 64 = sgW a rk rl u f S M c W q := sum_delta 64 (by omega)
  rw [h0, slV_sum (fun s hs => DW_sup f (Or.inr (by omega)) s (by omega)) hM] at h1
  have h3 := dual1 (rk := rk) (rl := rl) (so := a 5) (u := u) (d := sgO S M (DW rk rl (a 5) u (f + 1) S M 0 q f) 64) (pg := lN (a 2)) (pl := -lN (a 3)) (pm := 0) (ps := 0) (ways := 1 * tenL (W - f - 1)) (r := tenL (W - (0 + f) - 1)) (m0 := MW (cgv rk rl u) rk rl (a 5) u (f + 1) S M 0 q W f) (m1 := MW (clk u) rk rl (a 5) u (f + 1) S M 0 q W f) (m2 := MW (cms rk rl u) rk rl (a 5) u (f + 1) S M 0 q W f) (m3 := MW (csl rk rl (a 5) u) rk rl (a 5) u (f + 1) S M 0 q W f) (V := VB rk rl (a 5) u 0 (lN (a 2)) (-lN (a 3)) 0 0 1 (EV 0 (lN (a 4))) (W - f - 1)) (x := 1) (by rw [Nat.zero_add])
  have h4 := dualN (rk := rk) (rl := rl) (so := a 5) (sf := f + 1) (S := S) (M := M) (fr := 0) (st := q) (W := W) (u := u) (pg := lN (a 2)) (pl := -lN (a 3)) (pm := 0) (ps := 0) (x := 1) (e := EV 0 (lN (a 4))) W (by omega) 1 (by rw [show W - (0 + W) = 0 by omega]; rfl) (W - f - 1) (f + 1) (by omega) (fun k _ _ => by omega)
  have hd : dS (f + 1) S M (0 + f) (DW rk rl (a 5) u (f + 1) S M 0 q f) = sgO S M (DW rk rl (a 5) u (f + 1) S M 0 q f) 64 := by
    unfold dS
    rw [if_pos (by omega)]
  have e5 : ∀ c, MW c rk rl (a 5) u (f + 1) S M 0 q W (f + 1) = mnO c u (sgO S M (DW rk rl (a 5) u (f + 1) S M 0 q f) 64) (tenL (W - (0 + f) - 1)) (MW c rk rl (a 5) u (f + 1) S M 0 q W f) 64 := fun c => by
    rw [← hd]
    rfl
  have e6 : DW rk rl (a 5) u (f + 1) S M 0 q (f + 1) = thO rk rl (a 5) u (sgO S M (DW rk rl (a 5) u (f + 1) S M 0 q f) 64) 64 := by
    rw [← hd]
    rfl
  rw [← e5, ← e5, ← e5, ← e5, ← e6] at h3
  have e7 : VB rk rl (a 5) u 0 (lN (a 2)) (-lN (a 3)) 0 0 1 (EV 0 (lN (a 4))) (W - f) = fun s => vbN rk rl (a 5) u 0 (lN (a 2)) (-lN (a 3)) 0 0 (1 * tenL (W - f - 1)) (VB rk rl (a 5) u 0 (lN (a 2)) (-lN (a 3)) 0 0 1 (EV 0 (lN (a 4))) (W - f - 1)) s 4 := by
    obtain ⟨n, hn⟩ : ∃ n, W - f = n + 1 := ⟨W - f - 1, by omega⟩
    rw [hn, Nat.add_sub_cancel]
    rfl
  rw [e7] at h1
  have e8 : CW rk rl (a 5) u (f + 1) S M 0 q W W = sgC S M (DW rk rl (a 5) u (f + 1) S M 0 q f) (tenL (W - f)) 0 64 := by
    have := CW_hi (rk := rk) (rl := rl) (so := a 5) (f := f) (S := S) (M := M) (st := q) (W := W) (u := u) (W - f - 1)
    rw [show f + 1 + (W - f - 1) = W by omega] at this
    exact this
  have e9 : sL64 (fun s => lN (DW rk rl (a 5) u (f + 1) S M 0 q W s) * (EV 0 (lN (a 4))) s) 64 = lN (a 4) * sL64 (fun s => lN (DW rk rl (a 5) u (f + 1) S M 0 q W s) * lN s) 64 := by
    rw [sum_mulc 64, EV0]
    exact sL64_congr 64 (fun i _ => by grind)
  rw [e9] at h4
  rw [e8]
  unfold vF
  rw [Nat.sub_zero]
  generalize sL64 (fun j => lN (DW rk rl (a 5) u (f + 1) S M 0 q (f + 1) j) * _) 64 = z1 at h3 h4
  generalize sL64 (fun j => lN (sgO S M (DW rk rl (a 5) u (f + 1) S M 0 q f) 64 j) * _) 64 = z2 at h1 h3
  grind
theorem sgR_eq {a : Nat → Nat} {rk rl f S M c W q n : Nat} {u : Nat → Nat → Nat} {x : Nat → Int64} (hf : f < W) (hM : M ≤ 20) (hq : q ≤ 40) (hx : sL64 x n = 10) : sL64 (fun w => x w * (vF a rk rl (u w) (f + 1) S M 0 q W - lN (a 1 * q) * tenL W - lN c * CW rk rl (a 5) (u w) (f + 1) S M 0 q W W)) n = sgR a rk rl u x f S M c W n q := by
  unfold sgR
  have e : sL64 (fun w => x w * (vF a rk rl (u w) (f + 1) S M 0 q W - lN (a 1 * q) * tenL W - lN c * CW rk rl (a 5) (u w) (f + 1) S M 0 q W W)) n = sL64 (fun w => x w * (sgW a rk rl (u w) f S M c W q - lN (a 1 * q) * tenL W)) n := sL64_congr n (fun i _ => by
    rw [sgW_eq hf hM hq]
    grind)
  rw [e, sum_sub n, hx]
  show _ - _ = _ - lN (a 1 * q) * (tenL W * 10)
  grind
theorem sum_cut {f : Nat → Int64} (m : Nat) (h : ∀ j, m ≤ j → f j = 0) : ∀ n, sL64 f (m + n) = sL64 f m
  | 0 => rfl
  | n + 1 => by
    show sL64 f (m + n) + f (m + n) = sL64 f m
    rw [sum_cut m h n, h (m + n) (by omega)]
    grind
/-- the model's words of a second winter, in one winter -/
def sdV (a : Nat → Nat) (rk rl : Nat) (u : Nat → Nat) (b q W : Nat) (an : Nat → Int64) (n : Nat) : Int64 := (lN (a 2) * MW (cgv rk rl u) rk rl (a 5) u 0 0 0 0 q W W - lN (a 3) * MW (clk u) rk rl (a 5) u 0 0 0 0 q W W - lN (a 1 * q) * tenL W) * 10 * tenL (W + 1) + sL64 (fun s => lN (DW rk rl (a 5) u 0 0 0 0 q W s) * (lN ((10 - b) * a 4 * s) * tenL (W + 1) + lN b * an s)) n
theorem sdV_1 {a : Nat → Nat} {rk rl b q W n : Nat} {u : Nat → Nat} {an : Nat → Int64} : sdV a rk rl u b q W an n + lN (DW rk rl (a 5) u 0 0 0 0 q W n) * (lN ((10 - b) * a 4 * n) * tenL (W + 1) + lN b * an n) = sdV a rk rl u b q W an (n + 1) := by
  unfold sdV
  show _ + _ + _ = _ + (_ + _)
  rw [Int64.add_assoc]
theorem sdV_eq {a : Nat → Nat} {rk rl b q W : Nat} {u : Nat → Nat} {an : Nat → Int64} (hq : q ≤ 40) : sdV a rk rl u b q W an 41 = VB rk rl (a 5) u 0 (lN (a 2)) (-lN (a 3)) 0 0 (tenL (W + 1) * 10) (bhV (lN (a 4)) b (tenL (W + 1)) an) W q - lN (a 1 * q) * tenL W * 10 * tenL (W + 1) := by
  have h := dual (rk := rk) (rl := rl) (so := a 5) (S := 0) (M := 0) (fr := 0) (st := q) (W := W) (u := u) (pg := lN (a 2)) (pl := -lN (a 3)) (pm := 0) (ps := 0) (x := tenL (W + 1) * 10) (e := bhV (lN (a 4)) b (tenL (W + 1)) an) (by omega) (Nat.zero_le W)
  rw [Nat.sub_zero] at h
  rw [h]
  have e : sL64 (fun s => lN (DW rk rl (a 5) u 0 0 0 0 q W s) * bhV (lN (a 4)) b (tenL (W + 1)) an s) 64 = sL64 (fun s => lN (DW rk rl (a 5) u 0 0 0 0 q W s) * (lN ((10 - b) * a 4 * s) * tenL (W + 1) + lN b * an s)) 41 := by
    rw [← sum_cut 41 (fun j hj => by rw [DW_sup W (Or.inl rfl) j (by omega), lN_0]; grind) 23]
    exact sL64_congr 64 (fun i _ => by
      unfold bhV
      rw [← lN_mul, ← lN_mul])
  rw [e]
  unfold sdV mwS
  grind
theorem sdR_eq {a : Nat → Nat} {rk rl b q W n : Nat} {u : Nat → Nat → Nat} {x : Nat → Int64} (hq : q ≤ 40) (hx : sL64 x n = 10) : sL64 (fun w => x w * sdV a rk rl (u w) b q W (fun s => anyS rk rl (a 5) u 0 (lN (a 2)) (-lN (a 3)) 0 0 (EV 0 (lN (a 4))) x W s n) 41) n = sdR a rk rl u x b W n q := by
  unfold sdR
  have e : sL64 (fun w => x w * sdV a rk rl (u w) b q W (fun s => anyS rk rl (a 5) u 0 (lN (a 2)) (-lN (a 3)) 0 0 (EV 0 (lN (a 4))) x W s n) 41) n = sL64 (fun w => x w * (VB rk rl (a 5) (u w) 0 (lN (a 2)) (-lN (a 3)) 0 0 (tenL (W + 1) * 10) (bhV (lN (a 4)) b (tenL (W + 1)) (fun s => anyS rk rl (a 5) u 0 (lN (a 2)) (-lN (a 3)) 0 0 (EV 0 (lN (a 4))) x W s n)) W q - lN (a 1 * q) * tenL W * 10 * tenL (W + 1))) n := sL64_congr n (fun i _ => by rw [sdV_eq hq])
  rw [e, sum_sub n, hx]
  have e2 : tenL (2 * W + 3) = tenL W * tenL (W + 1) * 10 * 10 := by
    rw [tenL_add, show 2 * W + 3 = W + (W + 1) + 1 + 1 by omega]
    rfl
  rw [e2]
  grind
abbrev okG (P : PD) (t q s m c : Int32) : Prop := inR t (P 0 3 0) ∧ inR q 41 ∧ inR s 41 ∧ (1 ≤ m.toInt ∧ m.toInt ≤ 20) ∧ inR c 100
def sgF (A : AS) (t q S M c f : Nat) : Int64 := sgR (aP A 2 t) (aU A t 0) (aU A t 1) (aV A t) (aX A) f S M c (aP A 0 0 0) (aP A 0 2 0) q
abbrev okGf (P : PD) (t q f s m c : Int32) : Prop := okG P t q s m c ∧ inR f (P 0 0 0) ∧ 0 < P 0 2 0
def sledgeA (A : AS) (t q f s m c : Int32) : Int64 := if okGf (aP A) t q f s m c then sgF A (cl t) (cl q) (cl s) (cl m) (cl c) (cl f) else -9000000000000000000
def whenA (A : AS) (t q s m c : Int32) : Int32 := if okG (aP A) t q s m c then (if aP A 0 2 0 = 0 then -4 else nI (bst (sgF A (cl t) (cl q) (cl s) (cl m) (cl c)) (aP A 0 0 0 - 1))) else -2
def sdF (A : AS) (t b q : Nat) : Int64 := sdR (aP A 2 t) (aU A t 0) (aU A t 1) (aV A t) (aX A) b (aP A 0 0 0) (aP A 0 2 0) q
abbrev okD (P : PD) (t q b : Int32) : Prop := inR t (P 0 3 0) ∧ inR q 41 ∧ inR b 11 ∧ 0 < P 0 2 0
def secondA (A : AS) (t q b : Int32) : Int64 := if okD (aP A) t q b then sdF A (cl t) (cl b) (cl q) else -9000000000000000000
def forTwoA (A : AS) (t b : Int32) : Int32 := if inR t (aP A 0 3 0) ∧ inR b 11 then (if aP A 0 2 0 = 0 then -4 else nI (bst (sdF A (cl t) (cl b)) 40)) else -2
