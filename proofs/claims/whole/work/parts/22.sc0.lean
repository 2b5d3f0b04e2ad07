/-! ===== the model's scores ===== -/
def TMA (h : PH) (t : Nat) (a : Nat → Nat) (rk rl : Nat) : Prop := (∀ i, i < 6 → h.1 165 (6 * t + i) = nI (a i) ∧ a i < 1000) ∧ h.1 171 t = nI rk ∧ h.1 172 t = nI rl ∧ rk < 1000 ∧ rl < 1000 ∧ a 5 ≠ 1
theorem TMA.tm {h : PH} {t rk rl : Nat} {a : Nat → Nat} (q : TMA h t a rk rl) : TM h t rk rl (a 5) := ⟨q.2.1, q.2.2.1, (q.1 5 (by decide)).1, q.2.2.2.1, q.2.2.2.2.1, (q.1 5 (by decide)).2, q.2.2.2.2.2⟩
theorem TMA.fg {h h' : PH} {t rk rl : Nat} {a : Nat → Nat} (q : TMA h t a rk rl) (f : FG h h') : TMA h' t a rk rl := ⟨fun i hi => ⟨(f.i (by decide) (by decide) (by decide) (by decide)).trans (q.1 i hi).1, (q.1 i hi).2⟩, (f.i (by decide) (by decide) (by decide) (by decide)).trans q.2.1, (f.i (by decide) (by decide) (by decide) (by decide)).trans q.2.2.1, q.2.2.2⟩
/-- forwards: pay, lack, what is left -/
def vF (a : Nat → Nat) (rk rl : Nat) (u : Nat → Nat) (sf S M fr st W : Nat) : Int64 := lN (a 2) * MW (cgv rk rl u) rk rl (a 5) u sf S M fr st W (W - fr) - lN (a 3) * MW (clk u) rk rl (a 5) u sf S M fr st W (W - fr) + lN (a 4) * sL64 (fun s => lN (DW rk rl (a 5) u sf S M fr st (W - fr) s) * lN s) 64
def scB (a : Nat → Nat) (rk rl : Nat) (u : Nat → Nat) (k s : Nat) : Int64 := VB rk rl (a 5) u 0 (lN (a 2)) (-lN (a 3)) 0 0 1 (EV 0 (lN (a 4))) k s - lN (a 1 * s) * tenL k
theorem sum_mulc {f : Nat → Int64} {c : Int64} : ∀ N, c * sL64 f N = sL64 (fun i => c * f i) N
  | 0 => by show c * 0 = 0; grind
  | N + 1 => by
    show c * (sL64 f N + f N) = sL64 _ N + c * f N
    rw [← sum_mulc N]
    grind
theorem EV0 {pe : Int64} : EV 0 pe = fun j => pe * lN j := by
  funext j
  simp
theorem vF_eq {a : Nat → Nat} {rk rl S M fr st W : Nat} {u : Nat → Nat} (hst : st < 64) (hfr : fr ≤ W) : vF a rk rl u 0 S M fr st W = VB rk rl (a 5) u 0 (lN (a 2)) (-lN (a 3)) 0 0 1 (EV 0 (lN (a 4))) (W - fr) st := by
  rw [dual (S := S) (M := M) (fr := fr) (W := W) hst hfr, EV0]
  unfold vF
  rw [sum_mulc 64]
  have h : sL64 (fun i => lN (a 4) * (lN (DW rk rl (a 5) u 0 S M fr st (W - fr) i) * lN i)) 64 = sL64 (fun s => lN (DW rk rl (a 5) u 0 S M fr st (W - fr) s) * (lN (a 4) * lN s)) 64 := sL64_congr 64 (fun i _ => by grind)
  rw [h]
  grind
theorem sum_sub {x f : Nat → Int64} {c : Int64} : ∀ n, sL64 (fun w => x w * (f w - c)) n = sL64 (fun w => x w * f w) n - c * sL64 x n
  | 0 => by show (0 : Int64) = 0 - c * 0; grind
  | n + 1 => by
    show sL64 _ n + x n * (f n - c) = sL64 _ n + x n * f n - c * (sL64 x n + x n)
    rw [sum_sub n]
    grind
theorem scR_eq {a : Nat → Nat} {rk rl k n s : Nat} {u : Nat → Nat → Nat} {x : Nat → Int64} : scR a rk rl u x k n s = sL64 (fun w => x w * scB a rk rl (u w) k s) n := by
  unfold scR scB anyS
  rw [sum_sub n]
  grind
