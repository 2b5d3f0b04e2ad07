/-! ===== two things of which one does for the other ===== -/
/-- a thing: its numbers, its rule's kind and number, its wants -/
abbrev QP : Type := (Nat → Nat) × Nat × Nat × (Nat → Nat)
def pGv (X : QP) (s n : Nat) : Nat := gvN X.2.1 X.2.2.1 s n (X.2.2.2 4)
def pLk (X : QP) (s n : Nat) : Nat := lkN s n (X.2.2.2 4)
def pMs (X : QP) (s n : Nat) : Nat := msN X.2.1 X.2.2.1 s n (X.2.2.2 4)
def pRs (X : QP) (s n : Nat) : Nat := rsN X.2.1 X.2.2.1 s n (X.2.2.2 4)
def pSp (X : QP) (x : Nat) : Nat := spN X.2.1 X.2.2.1 x
def pTL (X Y : QP) (s o i j : Nat) : Nat := min (pLk X s i) (pSp Y (pRs Y o j))
def pTM (X Y : QP) (s o i j : Nat) : Nat := min (pMs X s i) (pSp Y (pRs Y o j) - pTL X Y s o i j)
def pMv (X Y : QP) (s o i j : Nat) : Nat := pTL X Y s o i j + pTM X Y s o i j
def pLf (X Y : QP) (s o i j : Nat) : Nat := pRs Y o j - pMv X Y s o i j
def pG (X Y : QP) (br s o i j : Nat) : Int64 := lN (X.1 2 * pGv X s i) - lN (X.1 3 * (pLk X s i - pTL X Y s o i j)) + lN (Y.1 2 * pGv Y o j) - lN (Y.1 3 * pLk Y o j) + lN (pMv X Y s o i j * br)
def pNs (X : QP) (s i : Nat) : Nat := pRs X s i - slN (X.1 5) (pRs X s i)
def pNo (X Y : QP) (s o i j : Nat) : Nat := pLf X Y s o i j - slN (Y.1 5) (pLf X Y s o i j)
def pN (X Y : QP) (s o i j : Nat) : Nat := pNs X s i * 21 + pNo X Y s o i j
def pc (X Y : QP) (m : Nat) : Nat := X.2.2.2 (m / 4) * Y.2.2.2 (m % 4)
def pGm (X Y : QP) (br k m : Nat) : Int64 := pG X Y br (k / 21) (k % 21) (m / 4) (m % 4)
def pNm (X Y : QP) (k m : Nat) : Nat := pN X Y (k / 21) (k % 21) (m / 4) (m % 4)
def PBf (X Y : QP) (br : Nat) (w : Int64) (V : Nat → Int64) (k m : Nat) : Int64 := lN (pc X Y m) * (pGm X Y br k m * w + V (pNm X Y k m))
def PBk (X Y : QP) (br : Nat) (w : Int64) (V : Nat → Int64) (k : Nat) : Int64 := sL64 (PBf X Y br w V k) 16
def pE (X Y : QP) (k : Nat) : Int64 := lN (X.1 4 * (k / 21) + Y.1 4 * (k % 21))
def PB (X Y : QP) (br : Nat) : Nat → Nat → Int64
  | 0 => pE X Y
  | n + 1 => PBk X Y br (tenL (2 * n)) (PB X Y br n)
theorem d21 {s o : Nat} (h : o < 21) : (s * 21 + o) / 21 = s ∧ (s * 21 + o) % 21 = o := by omega
theorem d4 {i j : Nat} (h : j < 4) : (4 * i + j) / 4 = i ∧ (4 * i + j) % 4 = j := by omega
theorem pMv_le (X Y : QP) (s o i j : Nat) : pMv X Y s o i j ≤ pRs Y o j := by
  have h := spN_le Y.2.1 Y.2.2.1 (pRs Y o j)
  unfold pMv pTM pTL pSp
  omega
theorem pTL_le (X Y : QP) (s o i j : Nat) : pTL X Y s o i j ≤ pLk X s i := Nat.min_le_left _ _
theorem pNs_le (X : QP) (s i : Nat) : pNs X s i ≤ s := by
  have := rs_le X.2.1 X.2.2.1 s i (X.2.2.2 4)
  unfold pNs pRs
  omega
theorem pNo_le (X Y : QP) (s o i j : Nat) : pNo X Y s o i j ≤ o := by
  have := rs_le Y.2.1 Y.2.2.1 o j (Y.2.2.2 4)
  unfold pNo pLf pRs
  omega
theorem pNm_lt (X Y : QP) {k m : Nat} (hk : k < 441) : pNm X Y k m < 441 := by
  have h1 := pNs_le X (k / 21) (m / 4)
  have h2 := pNo_le X Y (k / 21) (k % 21) (m / 4) (m % 4)
  unfold pNm pN
  omega
theorem PBk_cg {X Y : QP} {br s o : Nat} {w : Int64} {V V' : Nat → Int64} (ho : o < 21) (h : ∀ s' o', s' ≤ s → o' ≤ o → V (s' * 21 + o') = V' (s' * 21 + o')) : PBk X Y br w V (s * 21 + o) = PBk X Y br w V' (s * 21 + o) := by
  unfold PBk
  refine sL64_congr 16 (fun m _ => ?_)
  unfold PBf
  have e : V (pNm X Y (s * 21 + o) m) = V' (pNm X Y (s * 21 + o) m) := by
    unfold pNm pN
    rw [(d21 ho).1, (d21 ho).2]
    exact h _ _ (pNs_le X s (m / 4)) (pNo_le X Y s o (m / 4) (m % 4))
  rw [e]
/-! forwards -/
def gI (N : Nat → Nat → Nat) (c d : Nat → Nat) (k : Nat) (T : Nat → Nat) : Nat → Nat → Nat
  | 0 => T
  | m + 1 => fun j => gI N c d k T m j + (if j = N k m then d k * c m else 0)
def gO (N : Nat → Nat → Nat) (c d : Nat → Nat) : Nat → Nat → Nat
  | 0 => fun _ => 0
  | k + 1 => gI N c d k (gO N c d k) 16
def gmI (G : Nat → Nat → Int64) (c d : Nat → Nat) (r : Int64) (k : Nat) (x : Int64) : Nat → Int64
  | 0 => x
  | m + 1 => gmI G c d r k x m + lN (d k * c m) * r * G k m
def gmO (G : Nat → Nat → Int64) (c d : Nat → Nat) (r : Int64) (x : Int64) : Nat → Int64
  | 0 => x
  | k + 1 => gmI G c d r k (gmO G c d r x k) 16
theorem gI_0 {N : Nat → Nat → Nat} {c d : Nat → Nat} {k : Nat} {T : Nat → Nat} (h : d k = 0) : ∀ m, gI N c d k T m = T
  | 0 => rfl
  | m + 1 => by
    funext j
    show gI N c d k T m j + _ = T j
    rw [gI_0 h m, h, Nat.zero_mul, ite_self, Nat.add_zero]
theorem gI_z {N : Nat → Nat → Nat} {c d : Nat → Nat} {k m : Nat} {T : Nat → Nat} (h : d k * c m = 0) : gI N c d k T (m + 1) = gI N c d k T m := by
  funext j
  show gI N c d k T m j + (if j = N k m then d k * c m else 0) = _
  rw [h, ite_self, Nat.add_zero]
theorem gmI_0 {G : Nat → Nat → Int64} {c d : Nat → Nat} {k : Nat} {r x : Int64} (h : d k = 0) : ∀ m, gmI G c d r k x m = x
  | 0 => rfl
  | m + 1 => by
    show gmI G c d r k x m + _ = x
    rw [gmI_0 h m, h, Nat.zero_mul, lN_0]
    grind
theorem gmI_z {G : Nat → Nat → Int64} {c d : Nat → Nat} {k m : Nat} {r x : Int64} (h : d k * c m = 0) : gmI G c d r k x (m + 1) = gmI G c d r k x m := by
  show gmI G c d r k x m + lN (d k * c m) * r * G k m = _
  rw [h, lN_0]
  grind
theorem gI_sum {K : Nat} {N : Nat → Nat → Nat} {c d T : Nat → Nat} {k : Nat} {f : Nat → Int64} (hN : ∀ m, N k m < K) : ∀ m, sL64 (fun j => lN (gI N c d k T m j) * f j) K = sL64 (fun j => lN (T j) * f j) K + lN (d k) * sL64 (fun m => lN (c m) * f (N k m)) m
  | 0 => by
    show sL64 (fun j => lN (T j) * f j) K = _ + lN (d k) * 0
    grind
  | m + 1 => by
    have h := sum_ite_in (T := gI N c d k T m) (f := f) (a := N k m) (x := d k * c m) K (hN m)
    have h2 := gI_sum (c := c) (d := d) (T := T) (f := f) hN m
    show sL64 (fun j => lN (gI N c d k T m j + (if j = N k m then d k * c m else 0)) * f j) K = _ + lN (d k) * (sL64 _ m + lN (c m) * f (N k m))
    rw [h, h2, ← lN_mul]
    grind
theorem gO_sum {K : Nat} {N : Nat → Nat → Nat} {c d : Nat → Nat} {f : Nat → Int64} (hN : ∀ k, k < K → ∀ m, N k m < K) : ∀ k, k ≤ K → sL64 (fun j => lN (gO N c d k j) * f j) K = sL64 (fun i => lN (d i) * sL64 (fun m => lN (c m) * f (N i m)) 16) k
  | 0, _ => sum_zero K
  | k + 1, h => by
    show sL64 (fun j => lN (gI N c d k (gO N c d k) 16 j) * f j) K = sL64 _ k + _
    rw [gI_sum (hN k (by omega)), gO_sum hN k (by omega)]
theorem gmI_sum {G : Nat → Nat → Int64} {c d : Nat → Nat} {r x : Int64} {k : Nat} : ∀ m, gmI G c d r k x m = x + r * (lN (d k) * sL64 (fun m => lN (c m) * G k m) m)
  | 0 => by
    show x = x + r * (lN (d k) * 0)
    grind
  | m + 1 => by
    show gmI G c d r k x m + lN (d k * c m) * r * G k m = x + r * (lN (d k) * (sL64 _ m + lN (c m) * G k m))
    rw [gmI_sum m, ← lN_mul]
    grind
theorem gmO_sum {G : Nat → Nat → Int64} {c d : Nat → Nat} {r x : Int64} : ∀ k, gmO G c d r x k = x + r * sL64 (fun i => lN (d i) * sL64 (fun m => lN (c m) * G i m) 16) k
  | 0 => by
    show x = x + r * 0
    grind
  | k + 1 => by
    show gmI G c d r k (gmO G c d r x k) 16 = x + r * (sL64 _ k + _)
    rw [gmI_sum 16, gmO_sum k]
    grind
theorem sum_fg {c : Nat → Nat} {g f : Nat → Int64} {w : Int64} : ∀ n, sL64 (fun m => lN (c m) * (g m * w + f m)) n = w * sL64 (fun m => lN (c m) * g m) n + sL64 (fun m => lN (c m) * f m) n
  | 0 => by show (0 : Int64) = w * 0 + 0; grind
  | n + 1 => by
    show sL64 _ n + lN (c n) * (g n * w + f n) = w * (sL64 _ n + lN (c n) * g n) + (sL64 _ n + lN (c n) * f n)
    rw [sum_fg n]
    grind
theorem sum_2 {d : Nat → Nat} {w : Int64} {a b : Nat → Int64} : ∀ n, sL64 (fun i => lN (d i) * (w * a i + b i)) n = w * sL64 (fun i => lN (d i) * a i) n + sL64 (fun i => lN (d i) * b i) n
  | 0 => by show (0 : Int64) = w * 0 + 0; grind
  | n + 1 => by
    show sL64 _ n + lN (d n) * (w * a n + b n) = w * (sL64 _ n + lN (d n) * a n) + (sL64 _ n + lN (d n) * b n)
    rw [sum_2 n]
    grind
/-- one week of two -/
theorem pdual1 {X Y : QP} {br : Nat} {d : Nat → Nat} {w x : Int64} {V : Nat → Int64} : x + sL64 (fun k => lN (d k) * PBk X Y br w V k) 441 = gmO (pGm X Y br) (pc X Y) d w x 441 + sL64 (fun j => lN (gO (pNm X Y) (pc X Y) d 441 j) * V j) 441 := by
  rw [gmO_sum 441, gO_sum (fun k hk m => pNm_lt X Y hk) 441 (Nat.le_refl 441)]
  have h : sL64 (fun k => lN (d k) * PBk X Y br w V k) 441 = sL64 (fun k => lN (d k) * (w * sL64 (fun m => lN (pc X Y m) * pGm X Y br k m) 16 + sL64 (fun m => lN (pc X Y m) * V (pNm X Y k m)) 16)) 441 := sL64_congr 441 (fun k _ => by
    have e : PBk X Y br w V k = sL64 (fun m => lN (pc X Y m) * (pGm X Y br k m * w + V (pNm X Y k m))) 16 := rfl
    rw [e, sum_fg 16])
  rw [h, sum_2 441]
  grind
def pD (X Y : QP) (st : Nat) : Nat → Nat → Nat
  | 0 => fun j => if j = st then 1 else 0
  | i + 1 => gO (pNm X Y) (pc X Y) (pD X Y st i) 441
def pM (X Y : QP) (br st W : Nat) : Nat → Int64
  | 0 => 0
  | i + 1 => gmO (pGm X Y br) (pc X Y) (pD X Y st i) (tenL (2 * (W - i - 1))) (pM X Y br st W i) 441
theorem pdualN {X Y : QP} {br st W : Nat} : ∀ n i, i + n = W → pM X Y br st W i + sL64 (fun k => lN (pD X Y st i k) * PB X Y br n k) 441 = pM X Y br st W W + sL64 (fun k => lN (pD X Y st W k) * pE X Y k) 441
  | 0, i, hi => by
    have : i = W := by omega
    subst this
    rfl
  | n + 1, i, hi => by
    rw [← pdualN n (i + 1) (by omega)]
    show pM X Y br st W i + sL64 (fun k => lN (pD X Y st i k) * PBk X Y br (tenL (2 * n)) (PB X Y br n) k) 441 = _
    rw [pdual1]
    show _ = gmO (pGm X Y br) (pc X Y) (pD X Y st i) (tenL (2 * (W - i - 1))) (pM X Y br st W i) 441 + sL64 (fun k => lN (gO (pNm X Y) (pc X Y) (pD X Y st i) 441 k) * PB X Y br n k) 441
    rw [show W - i - 1 = n by omega]
theorem pdual {X Y : QP} {br st W : Nat} (hst : st < 441) : PB X Y br W st = pM X Y br st W W + sL64 (fun k => lN (pD X Y st W k) * pE X Y k) 441 := by
  have h := pdualN (X := X) (Y := Y) (br := br) (st := st) (W := W) W 0 (by omega)
  rw [← h]
  show _ = 0 + sL64 (fun k => lN (if k = st then 1 else 0) * PB X Y br W k) 441
  rw [sum_delta 441 hst]
  grind
/-! how many ways there are -/
theorem gI_sm {K : Nat} {N : Nat → Nat → Nat} {c d T : Nat → Nat} {k : Nat} (hN : ∀ m, N k m < K) : ∀ m, sm (gI N c d k T m) K = sm T K + d k * sm c m
  | 0 => by show sm T K = sm T K + d k * 0; omega
  | m + 1 => by
    have h := sm_in (T := gI N c d k T m) (a := N k m) (x := d k * c m) K (hN m)
    have h2 := gI_sm (c := c) (d := d) (T := T) hN m
    show sm (fun j => gI N c d k T m j + (if j = N k m then d k * c m else 0)) K = sm T K + d k * (sm c m + c m)
    rw [h, h2, Nat.mul_add]
    omega
theorem gO_sm {K : Nat} {N : Nat → Nat → Nat} {c d : Nat → Nat} (hN : ∀ k, k < K → ∀ m, N k m < K) : ∀ k, k ≤ K → sm (gO N c d k) K = sm d k * sm c 16
  | 0, _ => by
    show sm (fun _ => 0) K = 0 * _
    rw [sm_0, Nat.zero_mul]
  | k + 1, h => by
    show sm (gI N c d k (gO N c d k) 16) K = (sm d k + d k) * sm c 16
    rw [gI_sm (hN k (by omega)), gO_sm hN k (by omega), Nat.add_mul]
theorem sm_ge {f : Nat → Nat} : ∀ n i, i < n → f i ≤ sm f n
  | 0, i, h => absurd h (Nat.not_lt_zero i)
  | n + 1, i, h => by
    show f i ≤ sm f n + f n
    by_cases q : i = n
    · rw [q]; omega
    · have := sm_ge (f := f) n i (by omega)
      omega
theorem pc_sm {X Y : QP} (hx : X.2.2.2 0 + X.2.2.2 1 + X.2.2.2 2 + X.2.2.2 3 = 10) (hy : Y.2.2.2 0 + Y.2.2.2 1 + Y.2.2.2 2 + Y.2.2.2 3 = 10) : sm (pc X Y) 16 = 100 := by
  have e : sm (pc X Y) 16 = (X.2.2.2 0 + X.2.2.2 1 + X.2.2.2 2 + X.2.2.2 3) * (Y.2.2.2 0 + Y.2.2.2 1 + Y.2.2.2 2 + Y.2.2.2 3) := by
    show 0 + X.2.2.2 0 * Y.2.2.2 0 + X.2.2.2 0 * Y.2.2.2 1 + X.2.2.2 0 * Y.2.2.2 2 + X.2.2.2 0 * Y.2.2.2 3 + X.2.2.2 1 * Y.2.2.2 0 + X.2.2.2 1 * Y.2.2.2 1 + X.2.2.2 1 * Y.2.2.2 2 + X.2.2.2 1 * Y.2.2.2 3 + X.2.2.2 2 * Y.2.2.2 0 + X.2.2.2 2 * Y.2.2.2 1 + X.2.2.2 2 * Y.2.2.2 2 + X.2.2.2 2 * Y.2.2.2 3 + X.2.2.2 3 * Y.2.2.2 0 + X.2.2.2 3 * Y.2.2.2 1 + X.2.2.2 3 * Y.2.2.2 2 + X.2.2.2 3 * Y.2.2.2 3 = _
    grind
  rw [e, hx, hy]
theorem pD_sm {X Y : QP} {st : Nat} (hst : st < 441) (hc : sm (pc X Y) 16 = 100) : ∀ i, sm (pD X Y st i) 441 = 100 ^ i
  | 0 => by
    show sm (fun j => if j = st then 1 else 0) 441 = 1
    have h := sm_in (T := fun _ => 0) (a := st) (x := 1) 441 hst
    rw [sm_0] at h
    have e : sm (fun j => if j = st then 1 else 0) 441 = sm (fun j => 0 + (if j = st then 1 else 0)) 441 := sm_cg 441 (fun i _ => (Nat.zero_add _).symm)
    rw [e, h]
  | i + 1 => by
    show sm (gO (pNm X Y) (pc X Y) (pD X Y st i) 441) 441 = _
    rw [gO_sm (fun k hk m => pNm_lt X Y hk) 441 (Nat.le_refl 441), pD_sm hst hc i, hc, Nat.pow_succ]
theorem pD_b {X Y : QP} {st : Nat} (hst : st < 441) (hc : sm (pc X Y) 16 = 100) {i k : Nat} (hi : i ≤ 5) (hk : k < 441) : pD X Y st i k ≤ 10000000000 := by
  have h1 := sm_ge (f := pD X Y st i) 441 k hk
  rw [pD_sm hst hc i] at h1
  exact Nat.le_trans h1 (Nat.le_trans (Nat.pow_le_pow_right (by decide) hi) (by decide))
/-! ints of a few small numbers, as longs -/
theorem i_add {x : Int32} {n B : Nat} (hx : x.toInt.natAbs ≤ B) (hn : n ≤ 1000000) (hB : B ≤ 100000000) : (x + nI n).toInt = x.toInt + n := by
  rw [Int32.toInt_add, nI_toInt (by omega)]
  apply Int.bmod_eq_of_le <;> omega
theorem i_sub {x : Int32} {n B : Nat} (hx : x.toInt.natAbs ≤ B) (hn : n ≤ 1000000) (hB : B ≤ 100000000) : (x - nI n).toInt = x.toInt - n := by
  rw [Int32.toInt_sub, nI_toInt (by omega)]
  apply Int.bmod_eq_of_le <;> omega
theorem i2l2 {a b : Nat} (ha : a ≤ 1000000) (hb : b ≤ 1000000) : (nI a - nI b).toInt64 = lN a - lN b := by
  have e1 : (nI a).toInt = a := nI_toInt (by omega)
  have e2 := i_sub (x := nI a) (n := b) (B := 1000000) (by omega) hb (by decide)
  apply Int64.toInt_inj.mp
  rw [Int32.toInt_toInt64, e2, e1, ib_subT (ib_lN ha (by decide)) (ib_lN hb (by decide)) (by decide), pk_lT (by omega), pk_lT (by omega)]
theorem i2l3 {a b c : Nat} (ha : a ≤ 1000000) (hb : b ≤ 1000000) (hc : c ≤ 1000000) : (nI a - nI b + nI c).toInt64 = lN a - lN b + lN c := by
  have e1 : (nI a).toInt = a := nI_toInt (by omega)
  have e2 := i_sub (x := nI a) (n := b) (B := 1000000) (by omega) hb (by decide)
  have e3 := i_add (x := nI a - nI b) (n := c) (B := 2000000) (by omega) hc (by decide)
  have b2 := ib_sub (ib_lN ha (by decide)) (ib_lN hb (by decide)) (by decide)
  apply Int64.toInt_inj.mp
  rw [Int32.toInt_toInt64, e3, e2, e1, ib_addT b2 (ib_lN hc (by decide)) (by decide), ib_subT (ib_lN ha (by decide)) (ib_lN hb (by decide)) (by decide), pk_lT (by omega), pk_lT (by omega), pk_lT (by omega)]
theorem i2l5 {a b c d e : Nat} (ha : a ≤ 1000000) (hb : b ≤ 1000000) (hc : c ≤ 1000000) (hd : d ≤ 1000000) (he : e ≤ 1000000) : (nI a - nI b + nI c - nI d + nI e).toInt64 = lN a - lN b + lN c - lN d + lN e := by
  have e1 : (nI a).toInt = a := nI_toInt (by omega)
  have e2 := i_sub (x := nI a) (n := b) (B := 1000000) (by omega) hb (by decide)
  have e3 := i_add (x := nI a - nI b) (n := c) (B := 2000000) (by omega) hc (by decide)
  have e4 := i_sub (x := nI a - nI b + nI c) (n := d) (B := 3000000) (by omega) hd (by decide)
  have e5 := i_add (x := nI a - nI b + nI c - nI d) (n := e) (B := 4000000) (by omega) he (by decide)
  have b2 := ib_sub (ib_lN ha (by decide)) (ib_lN hb (by decide)) (by decide)
  have b3 := ib_add b2 (ib_lN hc (by decide)) (by decide)
  have b4 := ib_sub b3 (ib_lN hd (by decide)) (by decide)
  apply Int64.toInt_inj.mp
  rw [Int32.toInt_toInt64, e5, e4, e3, e2, e1, ib_addT b4 (ib_lN he (by decide)) (by decide), ib_subT b3 (ib_lN hd (by decide)) (by decide), ib_addT b2 (ib_lN hc (by decide)) (by decide), ib_subT (ib_lN ha (by decide)) (ib_lN hb (by decide)) (by decide), pk_lT (by omega), pk_lT (by omega), pk_lT (by omega), pk_lT (by omega), pk_lT (by omega)]
/-! answers -/
abbrev qX (A : AS) (t w : Nat) : QP := (aP A 2 t, aU A t 0, aU A t 1, aV A t w)
def brA (A : AS) (t : Nat) : Nat := aP A 2 t 2 * aP A 5 t 0 / 100
def tgA (A : AS) (t b q r : Nat) : Int64 := sL64 (fun w => lN (aP A 1 w 0) * PB (qX A t w) (qX A b w) (brA A t) (aP A 0 0 0) (q * 21 + r)) (aP A 0 2 0) - lN (aP A 2 t 1 * q + aP A 2 b 1 * r) * tenL (2 * aP A 0 0 0 + 1)
abbrev okI (P : PD) (t q r k : Int32) : Prop := (inR t (P 0 3 0) ∧ P 4 (cl t) 0 ≠ 0) ∧ inR q 21 ∧ inR r 21 ∧ inR k 2 ∧ 0 < P 0 2 0
def insV (A : AS) (t q r k : Nat) : Int64 := if k = 0 then tgA A t (aP A 4 t 0 - 1) q r else tgA A t (aP A 4 t 0 - 1) q r - (sOf A t q + sOf A (aP A 4 t 0 - 1) r) * tenL (aP A 0 0 0)
def insteadA (A : AS) (t q r k : Int32) : Int64 := if okI (aP A) t q r k then insV A (cl t) (cl q) (cl r) (cl k) else -9000000000000000000
