/-! ===== values: the canonical words ===== -/
abbrev okO (P : PD) (t q w : Int32) : Prop := inR t (P 0 3 0) ∧ inR q 41 ∧ (inR w (P 0 2 0) ∨ (w = -1 ∧ 0 < P 0 2 0))
abbrev aX (A : AS) : Nat → Int64 := fun w => lN (aP A 1 w 0)
abbrev aV (A : AS) (t : Nat) : Nat → Nat → Nat := fun w => aP A 3 (4 * t + w)
def vW (A : AS) (t : Nat) (sf : Nat) (pg pl pm ps : Int64) (V : Nat → Int64) (k s w : Nat) : Int64 := VB (aU A t 0) (aU A t 1) (aP A 2 t 5) (aV A t w) sf pg pl pm ps 1 V k s
def vS (A : AS) (t : Nat) (sf : Nat) (pg pl pm ps : Int64) (V : Nat → Int64) (k s : Nat) : Int64 := anyS (aU A t 0) (aU A t 1) (aP A 2 t 5) (aV A t) sf pg pl pm ps V (aX A) k s (aP A 0 2 0)
def sIn (A : AS) (t q w : Nat) : Int64 := scB (aP A 2 t) (aU A t 0) (aU A t 1) (aV A t w) (aP A 0 0 0) q
def sOf (A : AS) (t q : Nat) : Int64 := sL64 (fun w => lN (aP A 1 w 0) * sIn A t q w) (aP A 0 2 0)
theorem sm_lN {f : Nat → Nat} : ∀ n, sL64 (fun w => lN (f w)) n = lN (sm f n)
  | 0 => rfl
  | n + 1 => by
    show sL64 _ n + lN (f n) = lN (sm f n + f n)
    rw [sm_lN n, lN_add]
theorem WF.xL {A : AS} (hW : WF A) (h : 0 < aP A 0 2 0) : sL64 (aX A) (aP A 0 2 0) = 10 := by
  rw [sm_lN (f := fun w => aP A 1 w 0), hW.xs h]
  rfl
theorem scR_sOf {A : AS} {t q : Nat} : scR (aP A 2 t) (aU A t 0) (aU A t 1) (aV A t) (aX A) (aP A 0 0 0) (aP A 0 2 0) q = sOf A t q := scR_eq
/-- score in any winter: the class's words -/
theorem score_any {A : AS} {t q : Nat} (hW : WF A) (h : 0 < aP A 0 2 0) : vS A t 0 (lN (aP A 2 t 2)) (-lN (aP A 2 t 3)) 0 0 (EV 0 (lN (aP A 2 t 4))) (aP A 0 0 0) q - lN (aP A 2 t 1 * q) * tenL (aP A 0 0 0 + 1) = sOf A t q := by
  rw [← scR_sOf]
  unfold scR vS
  rw [hW.xL h]
  show _ - _ * (tenL _ * 10) = _ - _ * (10 * tenL _)
  grind
def scoreA (A : AS) (t q w : Int32) : Int64 := if okO (aP A) t q w then (if w = -1 then sOf A (cl t) (cl q) else sIn A (cl t) (cl q) (cl w)) else -9000000000000000000
def oh (i j : Nat) : Int64 := if j = i then 1 else 0
def mIn (A : AS) (t q w j : Nat) : Int64 := vW A t 0 (oh 0 j) (oh 1 j) (oh 2 j) (oh 3 j) (EV 0 (oh 4 j)) (aP A 0 0 0) q w
def mOf (A : AS) (t q j : Nat) : Int64 := vS A t 0 (oh 0 j) (oh 1 j) (oh 2 j) (oh 3 j) (EV 0 (oh 4 j)) (aP A 0 0 0) q
def meansA (A : AS) (t q w j : Int32) : Int64 := if okO (aP A) t q w ∧ inR j 5 then (if w = -1 then mOf A (cl t) (cl q) (cl j) else mIn A (cl t) (cl q) (cl w) (cl j)) else -9000000000000000000
/-- the model's means -/
theorem go_mean {h' : PH} {rk rl so st W : Nat} {u : Nat → Nat} {S M : Nat} (hst : st < 64)
  (z2 : h'.2.1 175 0 = MW (fun s n => gvN rk rl s n (u 4)) rk rl so u 0 S M 0 st W (W - 0) ∧ h'.2.1 175 1 = MW (fun s n => lkN s n (u 4)) rk rl so u 0 S M 0 st W (W - 0) ∧ h'.2.1 175 2 = MW (fun s n => msN rk rl s n (u 4)) rk rl so u 0 S M 0 st W (W - 0) ∧ h'.2.1 175 3 = MW (fun s n => slN so (rsN rk rl s n (u 4))) rk rl so u 0 S M 0 st W (W - 0))
  (z3 : h'.2.1 175 4 = sL64 (fun s => lN (DW rk rl so u 0 S M 0 st (W - 0) s) * lN s) 64) {j : Nat} (hj : j < 5) : h'.2.1 175 j = VB rk rl so u 0 (oh 0 j) (oh 1 j) (oh 2 j) (oh 3 j) 1 (EV 0 (oh 4 j)) W st := by
  have e : ∀ pe : Int64, sL64 (fun s => lN (DW rk rl so u 0 S M 0 st (W - 0) s) * (pe * lN s)) 64 = pe * sL64 (fun s => lN (DW rk rl so u 0 S M 0 st (W - 0) s) * lN s) 64 := fun pe => by
    rw [sum_mulc 64]
    exact sL64_congr 64 (fun i _ => by grind)
  have d := dual (rk := rk) (rl := rl) (so := so) (S := S) (M := M) (fr := 0) (st := st) (W := W) (u := u) (pg := oh 0 j) (pl := oh 1 j) (pm := oh 2 j) (ps := oh 3 j) (x := 1) (e := EV 0 (oh 4 j)) hst (Nat.zero_le W)
  rw [EV0, e] at d
  rw [EV0]
  refine Eq.trans ?_ d.symm
  unfold mwS
  rcases (show j = 0 ∨ j = 1 ∨ j = 2 ∨ j = 3 ∨ j = 4 by omega) with rfl | rfl | rfl | rfl | rfl
  · rw [z2.1]; show MW (cgv rk rl u) _ _ _ _ _ _ _ _ _ _ _ = 1 * (1 * _ + 0 * _ + 0 * _ + 0 * _) + 0 * _; grind
  · rw [z2.2.1]; show MW (clk u) _ _ _ _ _ _ _ _ _ _ _ = 1 * (0 * _ + 1 * _ + 0 * _ + 0 * _) + 0 * _; grind
  · rw [z2.2.2.1]; show MW (cms rk rl u) _ _ _ _ _ _ _ _ _ _ _ = 1 * (0 * _ + 0 * _ + 1 * _ + 0 * _) + 0 * _; grind
  · rw [z2.2.2.2]; show MW (csl rk rl so u) _ _ _ _ _ _ _ _ _ _ _ = 1 * (0 * _ + 0 * _ + 0 * _ + 1 * _) + 0 * _; grind
  · rw [z3]; show _ = 1 * (0 * _ + 0 * _ + 0 * _ + 0 * _) + 1 * _; grind
theorem c_X2_valueCounts {h : PH} {j : Nat} (hG : GR h.2.2) (hj : j < 5) : CtV mX2_valueCounts h [pR (some 92), pI (nI j)] (fun h' => OL h' 0 (oh 0 j) (oh 1 j) (oh 2 j) (oh 3 j) ∧ h'.2.1 92 10 = oh 4 j ∧ Fr 92 92 h h') := by
  rcases (show j = 0 ∨ j = 1 ∨ j = 2 ∨ j = 3 ∨ j = 4 by omega) with rfl | rfl | rfl | rfl | rfl
  · exact c_X2_valueCounts_0 hG
  · exact c_X2_valueCounts_1 hG
  · exact c_X2_valueCounts_2 hG
  · exact c_X2_valueCounts_3 hG
  · exact c_X2_valueCounts_4 hG
theorem nI_m1 {a : Nat} (h : a < 2 ^ 31) : ¬ nI a = -1 := by
  intro e
  have := congrArg Int32.toInt e
  rw [nI_toInt h] at this
  have h2 : (-1 : Int32).toInt = -1 := by decide
  omega
