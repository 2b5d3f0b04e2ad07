/-! ===== safety as numbers; bests; keeping ===== -/
theorem sm_cg {f g : Nat → Nat} : ∀ n, (∀ i, i < n → f i = g i) → sm f n = sm g n
  | 0, _ => rfl
  | n + 1, h => by
    show sm f n + f n = sm g n + g n
    rw [sm_cg n (fun i hi => h i (by omega)), h n (by omega)]
theorem sm_le {f g : Nat → Nat} : ∀ n, (∀ i, i < n → f i ≤ g i) → sm f n ≤ sm g n
  | 0, _ => Nat.le_refl 0
  | n + 1, h => by
    show sm f n + f n ≤ sm g n + g n
    have h1 := sm_le n (fun i hi => h i (by omega))
    have h2 := h n (by omega)
    omega
theorem sm_mul {f : Nat → Nat} {c : Nat} : ∀ n, sm (fun i => f i * c) n = sm f n * c
  | 0 => by simp [sm]
  | n + 1 => by
    show sm _ n + f n * c = (sm f n + f n) * c
    rw [sm_mul n, Nat.add_mul]
theorem sm_out {T : Nat → Nat} {a x : Nat} : ∀ N, N ≤ a → sm (fun j => T j + (if j = a then x else 0)) N = sm T N
  | 0, _ => rfl
  | N + 1, h => by
    show sm _ N + (T N + (if N = a then x else 0)) = sm T N + T N
    rw [sm_out N (by omega), if_neg (by omega)]
    rfl
theorem sm_in {T : Nat → Nat} {a x : Nat} : ∀ N, a < N → sm (fun j => T j + (if j = a then x else 0)) N = sm T N + x
  | 0, h => by omega
  | N + 1, h => by
    show sm _ N + (T N + (if N = a then x else 0)) = sm T N + T N + x
    by_cases q : N = a
    · rw [sm_out N (by omega), if_pos q]
      omega
    · rw [sm_in N (by omega), if_neg q]
      omega
theorem sm_0 : ∀ N, sm (fun _ => 0) N = 0
  | 0 => rfl
  | N + 1 => by
    show sm _ N + 0 = 0
    rw [sm_0 N]
theorem tsI_sm {rk rl so s : Nat} {u d T : Nat → Nat} (hs : s < 64) : ∀ n, sm (tsI rk rl so u d s T n) 64 ≤ sm T 64 + d s * sm u n
  | 0 => by simp [tsI]
  | n + 1 => by
    have h := sm_in (T := tsI rk rl so u d s T n) (a := nxN rk rl so (u 4) s n) (x := if lkN s n (u 4) = 0 then d s * u n else 0) 64 (by have := nx_le rk rl so (u 4) s n; omega)
    have h2 := tsI_sm (rk := rk) (rl := rl) (so := so) (u := u) (d := d) (T := T) hs n
    show sm (fun j => tsI rk rl so u d s T n j + (if j = nxN rk rl so (u 4) s n then (if lkN s n (u 4) = 0 then d s * u n else 0) else 0)) 64 ≤ sm T 64 + d s * (sm u n + u n)
    rw [h, Nat.mul_add]
    split <;> omega
theorem tsO_sm {rk rl so : Nat} {u d : Nat → Nat} : ∀ s, s ≤ 64 → sm (tsO rk rl so u d s) 64 ≤ sm d s * sm u 4
  | 0, _ => by
    show sm (fun _ => 0) 64 ≤ _
    rw [sm_0]
    omega
  | s + 1, h => by
    have h1 := tsI_sm (rk := rk) (rl := rl) (so := so) (u := u) (d := d) (T := tsO rk rl so u d s) (s := s) (by omega) 4
    have h2 := tsO_sm (rk := rk) (rl := rl) (so := so) (u := u) (d := d) s (by omega)
    show sm (tsI rk rl so u d s (tsO rk rl so u d s) 4) 64 ≤ (sm d s + d s) * sm u 4
    rw [Nat.add_mul]
    omega
theorem DF_sm {rk rl so st : Nat} {u : Nat → Nat} (hs : st < 64) (hu : sm u 4 = 10) : ∀ i, sm (DF rk rl so u st i) 64 ≤ 10 ^ i
  | 0 => by
    show sm (fun j => if j = st then 1 else 0) 64 ≤ 1
    have h := sm_in (T := fun _ => 0) (a := st) (x := 1) 64 hs
    rw [sm_0] at h
    have e : sm (fun j => if j = st then 1 else 0) 64 = sm (fun j => 0 + (if j = st then 1 else 0)) 64 := sm_cg 64 (fun i _ => (Nat.zero_add _).symm)
    rw [e, h]
    exact Nat.le_refl _
  | i + 1 => by
    have h1 := tsO_sm (rk := rk) (rl := rl) (so := so) (u := u) (d := DF rk rl so u st i) 64 (Nat.le_refl 64)
    have h2 := DF_sm (rk := rk) (rl := rl) (so := so) hs hu i
    show sm (tsO rk rl so u (DF rk rl so u st i) 64) 64 ≤ _
    rw [hu] at h1
    rw [Nat.pow_succ]
    omega
theorem tenL_pow : ∀ n, tenL n = lN (10 ^ n)
  | 0 => rfl
  | n + 1 => by
    show tenL n * 10 = _
    rw [tenL_pow n, Nat.pow_succ, ← lN_mul]
    rfl
def SF (A : AS) (t q w : Nat) : Nat := sm (DF (aU A t 0) (aU A t 1) (aP A 2 t 5) (aV A t w) q (aP A 0 0 0)) 64
def SO (A : AS) (t q : Nat) : Nat := sm (fun w => aP A 1 w 0 * SF A t q w) (aP A 0 2 0)
theorem SF_L {A : AS} {t q w : Nat} : sL64 (fun s => lN (DF (aU A t 0) (aU A t 1) (aP A 2 t 5) (aV A t w) q (aP A 0 0 0) s)) 64 = lN (SF A t q w) := sm_lN 64
theorem SO_L {A : AS} {t q : Nat} : sL64 (fun w => lN (aP A 1 w 0) * sL64 (fun s => lN (DF (aU A t 0) (aU A t 1) (aP A 2 t 5) (aV A t w) q (aP A 0 0 0) s)) 64) (aP A 0 2 0) = lN (SO A t q) := by
  have h : sL64 (fun w => lN (aP A 1 w 0) * sL64 (fun s => lN (DF (aU A t 0) (aU A t 1) (aP A 2 t 5) (aV A t w) q (aP A 0 0 0) s)) 64) (aP A 0 2 0) = sL64 (fun w => lN (aP A 1 w 0 * SF A t q w)) (aP A 0 2 0) := sL64_congr _ (fun w _ => by rw [SF_L, lN_mul])
  rw [h, sm_lN]
  rfl
theorem pow5 {k : Nat} (h : k ≤ 5) : 10 ^ k ≤ 100000 := Nat.le_trans (Nat.pow_le_pow_right (by decide) h) (by decide)
theorem SF_b {A : AS} {t q w : Nat} (hW : WF A) (ht : t < aP A 0 3 0) (hw : w < 4) (hq : q < 64) : SF A t q w ≤ 10 ^ aP A 0 0 0 := DF_sm hq (by
  have h := hW.us ht hw
  show 0 + _ + _ + _ + _ = 10
  rw [Nat.zero_add]
  exact h) _
theorem SO_b {A : AS} {t q : Nat} (hW : WF A) (ht : t < aP A 0 3 0) (hn : 0 < aP A 0 2 0) (hq : q < 64) : SO A t q ≤ 10 ^ (aP A 0 0 0 + 1) := by
  have bw := hW.wn
  have h : SO A t q ≤ sm (fun w => aP A 1 w 0 * 10 ^ aP A 0 0 0) (aP A 0 2 0) := sm_le _ (fun w hw => Nat.mul_le_mul_left _ (SF_b hW ht (by omega) hq))
  rw [sm_mul, hW.xs hn] at h
  rw [Nat.pow_succ]
  omega
theorem safe_in {A : AS} {t q w : Nat} {a b c d e : Int64} (hq : q < 64) : vW A t 1 a b c d (EV 1 e) (aP A 0 0 0) q w = lN (SF A t q w) := by
  unfold vW
  rw [dualF0 hq, SF_L]
theorem safe_any {A : AS} {t q : Nat} {a b c d e : Int64} (hq : q < 64) : vS A t 1 a b c d (EV 1 e) (aP A 0 0 0) q = lN (SO A t q) := by
  rw [← SO_L]
  unfold vS anyS
  exact sL64_congr _ (fun w _ => by rw [dualF0 hq])
def lstA (U V b : Nat) : Int64 := lN ((if b = 0 then U else V) / Nat.gcd U V)
def safeA (A : AS) (t q w : Int32) (b : Nat) : Int64 := if okO (aP A) t q w then (if w = -1 then lstA (SO A (cl t) (cl q)) (10 ^ (aP A 0 0 0 + 1)) b else lstA (SF A (cl t) (cl q) (cl w)) (10 ^ aP A 0 0 0) b) else -2
theorem bst_cg {f g : Nat → Int64} : ∀ n, (∀ i, i ≤ n → f i = g i) → bst f n = bst g n
  | 0, _ => rfl
  | n + 1, h => by
    have e := bst_cg (f := f) (g := g) n (fun i hi => h i (by omega))
    have b := bst_le g n
    unfold bst
    rw [e, h _ (by omega), h (n + 1) (by omega)]
/-- the first that holds -/
def frst (c : Nat → Bool) : Nat → Nat → Int32
  | 0, _ => -1
  | k + 1, i => if c i = true then nI i else frst c k (i + 1)
def oneA (A : AS) (t : Int32) : Int32 := if inR t (aP A 0 3 0) then (if aP A 0 2 0 = 0 then -4 else nI (bst (sOf A (cl t)) 40)) else -2
def sureC (A : AS) (t n q : Nat) : Bool := decide ((lN (10 ^ (aP A 0 0 0 + 1)) - lN (SO A t q)) * lN n ≤ lN (10 ^ (aP A 0 0 0 + 1)))
abbrev okS (P : PD) (t n : Int32) : Prop := inR t (P 0 3 0) ∧ (1 ≤ n.toInt ∧ n.toInt ≤ 999)
def sureA (A : AS) (t n : Int32) : Int32 := if okS (aP A) t n then (if aP A 0 2 0 = 0 then -4 else frst (sureC A (cl t) (cl n)) 41 0) else -2
def vaR (A : AS) (t fr s : Nat) : Int64 := vS A t 0 (lN (aP A 2 t 2)) (-lN (aP A 2 t 3)) 0 0 (EV 0 (lN (aP A 2 t 4))) (aP A 0 0 0 - fr) s
abbrev okW (P : PD) (t w s : Int32) : Prop := inR t (P 0 3 0) ∧ inR w (P 0 0 0) ∧ inR s 41 ∧ 0 < P 0 2 0
def worthA (A : AS) (t w s : Int32) : Int64 := if okW (aP A) t w s then vaR A (cl t) (cl w) (cl s + 1) - vaR A (cl t) (cl w) (cl s) else -9000000000000000000
/-- keeping k of the order q -/
def kf (A : AS) (t q k : Nat) : Int64 := sL64 (fun w => lN (aP A 1 w 0) * scB (aP A 2 t) 1 k (aV A t w) (aP A 0 0 0) q) (aP A 0 2 0)
theorem sp_k {k k' x : Nat} (h : x ≤ k) (h' : x ≤ k') : spN 1 k x = spN 1 k' x := by
  unfold spN
  rw [if_pos rfl, if_pos rfl, if_neg (by omega), if_neg (by omega)]
theorem gv_k {k k' s n ne : Nat} (h : s ≤ k) (h' : s ≤ k') : gvN 1 k s n ne = gvN 1 k' s n ne := by
  unfold gvN wmN
  rw [sp_k (k := k) (k' := k') (by omega) (by omega)]
  rfl
theorem ms_k {k k' s n ne : Nat} (h : s ≤ k) (h' : s ≤ k') : msN 1 k s n ne = msN 1 k' s n ne := by
  unfold msN wmN
  rw [sp_k (k := k) (k' := k') (by omega) (by omega)]
  rfl
theorem vb_k {k k' so s : Nat} {u : Nat → Nat} {sf : Nat} {pg pl pm ps ways : Int64} {V V' : Nat → Int64} (h : s ≤ k) (h' : s ≤ k') (hV : ∀ r, r ≤ s → V r = V' r) : ∀ n, vbN 1 k so u sf pg pl pm ps ways V s n = vbN 1 k' so u sf pg pl pm ps ways V' s n
  | 0 => rfl
  | n + 1 => by
    have hr := rs_le 1 k' s n (u 4)
    rw [vbN, vbN, vb_k h h' hV n]
    unfold wkv wv
    have e : rsN 1 k s n (u 4) = rsN 1 k' s n (u 4) := by
      unfold rsN
      rw [gv_k h h']
    rw [e, gv_k h h', ms_k h h', hV _ (by omega)]
theorem VB_k {k k' so : Nat} {u : Nat → Nat} {sf : Nat} {pg pl pm ps ways : Int64} {V : Nat → Int64} : ∀ i s, s ≤ k → s ≤ k' → VB 1 k so u sf pg pl pm ps ways V i s = VB 1 k' so u sf pg pl pm ps ways V i s
  | 0, _, _, _ => rfl
  | i + 1, s, h, h' => vb_k h h' (fun r hr => VB_k i r (by omega) (by omega)) 4
theorem kf_k {A : AS} {t q k : Nat} (h : q ≤ k) : kf A t q k = kf A t q q := by
  unfold kf
  refine sL64_congr _ (fun w _ => ?_)
  unfold scB
  rw [VB_k _ _ h (Nat.le_refl q)]
theorem bst_ge (f : Nat → Int64) : ∀ n i, i ≤ n → ¬ f (bst f n) < f i
  | 0, i, h => by
    have : i = 0 := by omega
    subst this
    exact Int64.lt_irrefl
  | n + 1, i, h => by
    unfold bst
    split
    · rename_i q
      by_cases e : i = n + 1
      · rw [e]; exact Int64.lt_irrefl
      · have := bst_ge f n i (by omega)
        exact fun z => this (Int64.lt_trans q z)
    · rename_i q
      by_cases e : i = n + 1
      · rw [e]; exact q
      · exact bst_ge f n i (by omega)
theorem bst_k {f : Nat → Int64} {q : Nat} (hq : ∀ k, q ≤ k → f k = f q) : ∀ d, bst f (q + d) = bst f q
  | 0 => rfl
  | d + 1 => by
    have e := bst_k hq d
    show (if f (bst f (q + d)) < f (q + d + 1) then q + d + 1 else bst f (q + d)) = _
    rw [e, if_neg]
    rw [hq (q + d + 1) (by omega)]
    exact bst_ge f q q (Nat.le_refl q)
def keptU (A : AS) (t k : Nat) : AS := wU A (fun j i => if j = t then (if i = 0 then 1 else k) else aU A j i)
theorem kf_sOf {A : AS} {t q k : Nat} : sOf (keptU A t k) t q = kf A t q k := by
  unfold sOf sIn kf keptU
  show sL64 (fun w => lN (aP A 1 w 0) * scB (aP A 2 t) (if t = t then (if 0 = 0 then 1 else k) else aU A t 0) (if t = t then (if 1 = 0 then 1 else k) else aU A t 1) (aV A t w) (aP A 0 0 0) q) (aP A 0 2 0) = _
  rw [if_pos rfl, if_pos rfl, if_pos rfl, if_neg (by decide)]
def keepsA (A : AS) (t q : Int32) : Int32 := if inR t (aP A 0 3 0) ∧ inR q 41 then (if aP A 0 2 0 = 0 then -4 else nI (bst (kf A (cl t) (cl q)) (cl q))) else -2
