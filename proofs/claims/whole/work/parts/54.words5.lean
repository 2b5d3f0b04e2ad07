/-! ===== bounds of scores ===== -/
def ib (B : Nat) (x : Int64) : Prop := x.toInt.natAbs ≤ B
theorem ib_mo {a b : Nat} {x : Int64} (h : ib a x) (hab : a ≤ b) : ib b x := Nat.le_trans h hab
theorem ib_addT {a b : Nat} {x y : Int64} (hx : ib a x) (hy : ib b y) (h : a + b < 2 ^ 62) : (x + y).toInt = x.toInt + y.toInt := by
  unfold ib at hx hy
  rw [Int64.toInt_add]
  apply Int.bmod_eq_of_le <;> omega
theorem ib_subT {a b : Nat} {x y : Int64} (hx : ib a x) (hy : ib b y) (h : a + b < 2 ^ 62) : (x - y).toInt = x.toInt - y.toInt := by
  unfold ib at hx hy
  rw [Int64.toInt_sub]
  apply Int.bmod_eq_of_le <;> omega
theorem ib_add {a b : Nat} {x y : Int64} (hx : ib a x) (hy : ib b y) (h : a + b < 2 ^ 62) : ib (a + b) (x + y) := by
  have e := ib_addT hx hy h
  unfold ib at *
  rw [e]
  omega
theorem ib_sub {a b : Nat} {x y : Int64} (hx : ib a x) (hy : ib b y) (h : a + b < 2 ^ 62) : ib (a + b) (x - y) := by
  have e := ib_subT hx hy h
  unfold ib at *
  rw [e]
  omega
theorem ib_mulT {a b : Nat} {x y : Int64} (hx : ib a x) (hy : ib b y) (h : a * b < 2 ^ 62) : (x * y).toInt = x.toInt * y.toInt := by
  unfold ib at hx hy
  have h1 : (x.toInt * y.toInt).natAbs ≤ a * b := by
    rw [Int.natAbs_mul]
    exact Nat.mul_le_mul hx hy
  rw [Int64.toInt_mul]
  apply Int.bmod_eq_of_le <;> omega
theorem ib_mul {a b : Nat} {x y : Int64} (hx : ib a x) (hy : ib b y) (h : a * b < 2 ^ 62) : ib (a * b) (x * y) := by
  have e := ib_mulT hx hy h
  unfold ib at *
  rw [e, Int.natAbs_mul]
  exact Nat.mul_le_mul hx hy
theorem ib_lN {n b : Nat} (h : n ≤ b) (hb : b < 2 ^ 62) : ib b (lN n) := by
  unfold ib
  rw [pk_lT (by omega)]
  omega
theorem ib_neg {a : Nat} {x : Int64} (hx : ib a x) (h : a < 2 ^ 62) : ib a (-x) := by
  unfold ib at *
  rw [Int64.toInt_neg]
  have e : (-x.toInt).bmod (2 ^ 64) = -x.toInt := by apply Int.bmod_eq_of_le <;> omega
  rw [e]
  omega
theorem ib_0 : ib 0 0 := Nat.le_refl 0
theorem vb_b {rk rl so K w : Nat} {u : Nat → Nat} {pg pl ways : Int64} {V : Nat → Int64} (hu : ∀ n, n < 4 → u n ≤ 10) (hg : ib 99 pg) (hl : ib 500 pl) (hw : ib w ways) (bw : w ≤ 100000) (hV : ∀ s, s ≤ 60 → ib K (V s)) (bK : K ≤ 1000000000000) {s : Nat} (hs : s ≤ 60) : ∀ n, n ≤ 4 → ib (n * (10 * (1797 * w + K))) (vbN rk rl so u 0 pg pl 0 0 ways V s n)
  | 0, _ => by
    have e : 0 * (10 * (1797 * w + K)) = 0 := Nat.zero_mul _
    rw [e]
    exact ib_0
  | n + 1, h => by
    have ih := vb_b (rk := rk) (rl := rl) (so := so) hu hg hl hw bw hV bK hs n (by omega)
    have e1 := gv_wa rk rl s n (u 4)
    have e2 := lk_wa s n (u 4)
    have e3 := ms_wa rk rl s n (u 4)
    have e4 := sl_le so (rsN rk rl s n (u 4))
    have e5 := rs_le rk rl s n (u 4)
    have g1 := ib_mul hg (ib_lN (n := gvN rk rl s n (u 4)) (b := 3) (by omega) (by decide)) (by decide)
    have g2 := ib_mul hl (ib_lN (n := lkN s n (u 4)) (b := 3) (by omega) (by decide)) (by decide)
    have g3 := ib_mul ib_0 (ib_lN (n := msN rk rl s n (u 4)) (b := 3) (by omega) (by decide)) (by decide)
    have g4 := ib_mul ib_0 (ib_lN (n := slN so (rsN rk rl s n (u 4))) (b := 60) (by omega) (by decide)) (by decide)
    have g5 := ib_mul (ib_add (ib_add (ib_add g1 g2 (by decide)) g3 (by decide)) g4 (by decide)) hw (by omega)
    have g6 := ib_add g5 (hV (rsN rk rl s n (u 4) - slN so (rsN rk rl s n (u 4))) (by omega)) (by omega)
    have g7 := ib_mul (ib_lN (hu n (by omega)) (by decide)) g6 (by omega)
    have g8 := ib_add ih g7 (by
      have : n * (10 * (1797 * w + K)) ≤ 4 * (10 * (1797 * w + K)) := Nat.mul_le_mul_right _ (by omega)
      omega)
    refine ib_mo g8 ?_
    rw [Nat.add_mul n 1]
    omega
def Kn : Nat → Nat
  | 0 => 6000
  | i + 1 => 4 * (10 * (1797 * 10 ^ i + Kn i))
theorem Kn_b : ∀ i, i < 6 → Kn i ≤ 900000000000 := by decide
theorem VB_b {rk rl so : Nat} {u : Nat → Nat} {pg pl : Int64} {V : Nat → Int64} (hu : ∀ n, n < 4 → u n ≤ 10) (hg : ib 99 pg) (hl : ib 500 pl) (hV : ∀ s, s ≤ 60 → ib 6000 (V s)) : ∀ i, i ≤ 5 → ∀ s, s ≤ 60 → ib (Kn i) (VB rk rl so u 0 pg pl 0 0 1 V i s)
  | 0, _, s, hs => hV s hs
  | i + 1, h, s, hs => by
    have ih := VB_b (rk := rk) (rl := rl) (so := so) hu hg hl hV i (by omega)
    have hk := Kn_b i (by omega)
    have hp := pow5 (show i ≤ 5 by omega)
    refine vb_b (w := 10 ^ i) hu hg hl ?_ hp ih (by omega) hs 4 (Nat.le_refl 4)
    have e : (1 : Int64) * tenL i = lN (10 ^ i) := by rw [tenL_pow]; grind
    rw [e]
    exact ib_lN (Nat.le_refl _) (by omega)
theorem sIn_b {A : AS} {t q w : Nat} (hW : WF A) (ht : t < aP A 0 3 0) (hw : w < 4) (hq : q ≤ 41) : ib 1000000000000 (sIn A t q w) := by
  have bt := hW.t ht
  have bk := hW.wk
  have h1 := VB_b (rk := aU A t 0) (rl := aU A t 1) (so := aP A 2 t 5) (u := aV A t w) (pg := lN (aP A 2 t 2)) (pl := -lN (aP A 2 t 3)) (V := EV 0 (lN (aP A 2 t 4))) (fun n hn => hW.u ht hw (by omega)) (ib_lN (by omega) (by decide)) (ib_neg (ib_lN (by omega) (by decide)) (by decide)) (fun s hs => by
    rw [EV0]
    exact ib_mo (ib_mul (ib_lN (show aP A 2 t 4 ≤ 99 by omega) (by decide)) (ib_lN hs (by decide)) (by decide)) (by decide)) (aP A 0 0 0) bk.2 q (by omega)
  have hk := Kn_b (aP A 0 0 0) (by omega)
  have hp := pow5 bk.2
  have h2 : ib (4100 * 100000) (lN (aP A 2 t 1 * q) * tenL (aP A 0 0 0)) := by
    have hm : aP A 2 t 1 * q ≤ 99 * 41 := Nat.mul_le_mul bt.2.1 hq
    rw [tenL_pow]
    exact ib_mul (ib_lN (by omega) (by decide)) (ib_lN hp (by decide)) (by decide)
  exact ib_mo (ib_sub h1 h2 (by omega)) (by omega)
theorem sOf_bn {A : AS} {t q : Nat} (hW : WF A) (ht : t < aP A 0 3 0) (hq : q ≤ 41) : ∀ n, n ≤ aP A 0 2 0 → ib (n * 10000000000000) (sL64 (fun w => lN (aP A 1 w 0) * sIn A t q w) n)
  | 0, _ => ib_0
  | n + 1, h => by
    have bw := hW.wn
    have ih := sOf_bn hW ht hq n (by omega)
    have g := ib_mul (ib_lN (hW.x (w := n) (by omega)) (by decide)) (sIn_b hW ht (w := n) (by omega) hq) (by decide)
    refine ib_mo (ib_add ih g (by omega)) ?_
    rw [Nat.add_mul]
    omega
theorem sOf_b {A : AS} {t q : Nat} (hW : WF A) (ht : t < aP A 0 3 0) (hq : q ≤ 41) : ib 40000000000000 (sOf A t q) := by
  have bw := hW.wn
  exact ib_mo (sOf_bn hW ht hq _ (Nat.le_refl _)) (by omega)
/-! ===== the next case ===== -/
def nxF (A : AS) (t : Nat) : Int64 := sOf A t (rq (aT A) t + 1) - sOf A t (rq (aT A) t)
def nxR (P : PD) (z : Nat × Int64) : Int64 := if z.1 = 0 then 1 else lN (P 2 (z.1 - 1) 0)
abbrev nxC (A : AS) (t : Nat) (z : Nat × Int64) : Prop := rq (aT A) t < 40 ∧ z.2 * lN (aP A 2 t 0) < nxF A t * nxR (aP A) z
def nxS (A : AS) : Nat → Nat × Int64
  | 0 => (0, 0)
  | t + 1 => if nxC A t (nxS A t) then (t + 1, nxF A t) else nxS A t
theorem nxF_b {A : AS} {t : Nat} (hW : WF A) (ht : t < aP A 0 3 0) (hq : rq (aT A) t < 41) : ib 80000000000000 (nxF A t) := ib_sub (sOf_b hW ht (by omega)) (sOf_b hW ht (by omega)) (by decide)
def nxI (A : AS) (t : Nat) (z : Nat × Int64) : Prop := z.1 ≤ t ∧ (z.1 = 0 → z.2 = 0) ∧ (z.1 ≠ 0 → 0 < z.2.toInt ∧ ib 80000000000000 z.2)
theorem nx_neg {A : AS} {t : Nat} {z : Nat × Int64} (hW : WF A) (ht : t < aP A 0 3 0) (hq : rq (aT A) t < 41) (hi : nxI A t z) (hv : nxF A t ≤ 0) : ¬ z.2 * lN (aP A 2 t 0) < nxF A t * nxR (aP A) z := by
  have b := nxF_b hW ht hq
  have br := (hW.t ht).1
  have hv2 : (nxF A t).toInt ≤ 0 := Int64.le_iff_toInt_le.mp hv
  obtain ⟨h1, h2, h3⟩ := hi
  unfold nxR
  by_cases q : z.1 = 0
  · rw [if_pos q, h2 q]
    intro y
    have e : (0 : Int64) * lN (aP A 2 t 0) = 0 := by grind
    have e2 : nxF A t * 1 = nxF A t := by grind
    rw [e, e2] at y
    exact absurd y (Int64.not_lt.mpr hv)
  · rw [if_neg q]
    obtain ⟨p1, p2⟩ := h3 q
    have bz := (hW.t (t := z.1 - 1) (by omega)).1
    intro y
    have y2 := Int64.lt_iff_toInt_lt.mp y
    rw [ib_mulT p2 (ib_lN (n := aP A 2 t 0) (b := 9) (by omega) (by decide)) (by decide), ib_mulT b (ib_lN (n := aP A 2 (z.1 - 1) 0) (b := 9) (by omega) (by decide)) (by decide), pk_lT (by omega), pk_lT (by omega)] at y2
    have l1 : 0 ≤ z.2.toInt * (aP A 2 t 0 : Int) := Int.mul_nonneg (by omega) (by omega)
    have l2 : (nxF A t).toInt * (aP A 2 (z.1 - 1) 0 : Int) ≤ 0 := Int.mul_nonpos_of_nonpos_of_nonneg hv2 (by omega)
    omega
theorem nx_pos {A : AS} {t : Nat} {z : Nat × Int64} (hi : nxI A t z) (hz : z.1 = 0) (hv : 0 < nxF A t) : z.2 * lN (aP A 2 t 0) < nxF A t * nxR (aP A) z := by
  unfold nxR
  rw [if_pos hz, hi.2.1 hz]
  have e : (0 : Int64) * lN (aP A 2 t 0) = 0 := by grind
  have e2 : nxF A t * 1 = nxF A t := by grind
  rw [e, e2]
  exact hv
theorem nxS_i {A : AS} (hW : WF A) (hr : rowOk (aP A) (aT A) (aN A)) : ∀ t, t ≤ aP A 0 3 0 → nxI A t (nxS A t)
  | 0, _ => ⟨Nat.le_refl 0, fun _ => rfl, fun z => absurd rfl z⟩
  | t + 1, h => by
    have ih := nxS_i hW hr t (by omega)
    have hq := (rq_eq (hr.2 t (by rw [hr.1]; omega))).2
    unfold nxS
    by_cases c : nxC A t (nxS A t)
    · rw [if_pos c]
      have hp : ¬ nxF A t ≤ 0 := fun z => nx_neg hW (by omega) hq ih z c.2
      exact ⟨Nat.le_refl _, fun z => absurd z (Nat.succ_ne_zero t), fun _ => ⟨Int64.lt_iff_toInt_lt.mp (Int64.not_le.mp hp), nxF_b hW (by omega) hq⟩⟩
    · rw [if_neg c]
      exact ⟨Nat.le_succ_of_le ih.1, ih.2⟩
theorem nxS_1 {A : AS} {t : Nat} (h : nxC A t (nxS A t)) : nxS A (t + 1) = (t + 1, nxF A t) := if_pos h
theorem nxS_0 {A : AS} {t : Nat} (h : ¬ nxC A t (nxS A t)) : nxS A (t + 1) = nxS A t := if_neg h
def nextA (A : AS) : Int32 := if aP A 0 2 0 = 0 then -4 else if rowOk (aP A) (aT A) (aN A) then hlp (nxS A (aP A 0 3 0)).1 else -1
/-! ===== the list ===== -/
def qm (r c : Nat) : Nat := min 40 (c / r)
theorem qm_le {r c k : Nat} (hr : 0 < r) : k ≤ qm r c ↔ k ≤ 40 ∧ k * r ≤ c := by
  unfold qm
  rw [Nat.le_min, Nat.le_div_iff_mul_le hr]
theorem qm_40 (r c : Nat) : qm r c ≤ 40 := Nat.min_le_left _ _
def bD (A : AS) : Nat → Nat → Int64
  | 0, _ => 0
  | d + 1, c => (fun f : Nat → Int64 => f (bst f (qm (aP A 2 (aP A 0 3 0 - (d + 1)) 0) c))) (fun q => sOf A (aP A 0 3 0 - (d + 1)) q + bD A d (c - q * aP A 2 (aP A 0 3 0 - (d + 1)) 0))
def bT (A : AS) (t c : Nat) : Int64 := bD A (aP A 0 3 0 - t) c
def lfT (A : AS) (t c q : Nat) : Int64 := sOf A t q + bT A (t + 1) (c - q * aP A 2 t 0)
theorem bT_T {A : AS} {t c : Nat} (h : aP A 0 3 0 ≤ t) : bT A t c = 0 := by
  unfold bT
  rw [Nat.sub_eq_zero_of_le h]
  rfl
theorem bT_eq {A : AS} {t c : Nat} (ht : t < aP A 0 3 0) : bT A t c = lfT A t c (bst (lfT A t c) (qm (aP A 2 t 0) c)) := by
  have e : aP A 0 3 0 - t = (aP A 0 3 0 - (t + 1)) + 1 := by omega
  have e2 : aP A 0 3 0 - ((aP A 0 3 0 - (t + 1)) + 1) = t := by omega
  have e3 : lfT A t c = fun q => sOf A t q + bD A (aP A 0 3 0 - (t + 1)) (c - q * aP A 2 t 0) := rfl
  unfold bT
  rw [e, e3]
  show (fun f : Nat → Int64 => f (bst f (qm (aP A 2 (aP A 0 3 0 - ((aP A 0 3 0 - (t + 1)) + 1)) 0) c))) (fun q => sOf A (aP A 0 3 0 - ((aP A 0 3 0 - (t + 1)) + 1)) q + bD A (aP A 0 3 0 - (t + 1)) (c - q * aP A 2 (aP A 0 3 0 - ((aP A 0 3 0 - (t + 1)) + 1)) 0)) = _
  rw [e2]
def csL (A : AS) : Nat → Nat
  | 0 => aP A 0 1 0
  | t + 1 => csL A t - bst (lfT A t (csL A t)) (qm (aP A 2 t 0) (csL A t)) * aP A 2 t 0
def chL (A : AS) (t : Nat) : Nat := bst (lfT A t (csL A t)) (qm (aP A 2 t 0) (csL A t))
theorem chL_le (A : AS) (t : Nat) : chL A t ≤ 40 := Nat.le_trans (bst_le _ _) (qm_40 _ _)
theorem csL_1 {A : AS} {t : Nat} : csL A (t + 1) = csL A t - chL A t * aP A 2 t 0 := rfl
theorem csL_b {A : AS} : ∀ t, csL A t ≤ aP A 0 1 0
  | 0 => Nat.le_refl _
  | t + 1 => Nat.le_trans (Nat.sub_le _ _) (csL_b t)
theorem bst_lt {f : Nat → Int64} : ∀ n i, i < bst f n → f i < f (bst f n)
  | 0, i, h => absurd h (Nat.not_lt_zero i)
  | n + 1, i, h => by
    have ih := bst_lt (f := f) n
    have g := bst_ge f n
    unfold bst at h ⊢
    by_cases c : f (bst f n) < f (n + 1)
    · rw [if_pos c] at h ⊢
      have g2 := Int64.not_lt.mp (g i (by omega))
      exact Int64.lt_of_le_of_lt g2 c
    · rw [if_neg c] at h ⊢
      exact ih i h
def listA (A : AS) : Int64 := if aP A 0 2 0 = 0 then -9000000000000000000 else bT A 0 (aP A 0 1 0)
def listS (A : AS) : AS := if aP A 0 2 0 = 0 then A else wLs A (1, chL A)
theorem WF.list {A : AS} (a : WF A) : WF (listS A) := by
  unfold listS
  split
  · exact a
  · obtain ⟨a1, a2, a3, a4, a5, a6⟩ := a
    exact ⟨a1, a2, a3, a4, ⟨by show 1 < 2; decide, fun t => chL_le A t⟩, a6⟩
