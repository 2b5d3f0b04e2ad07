/-! ===== a thing's numbers in a bundle; scores ===== -/
def TA (h : PH) (th : Nat) (a : Nat → Nat) (rk rl : Nat) : Prop := (∀ i, i < 6 → h.1 th i = nI (a i) ∧ a i < 1000) ∧ h.1 th 8 = nI rk ∧ h.1 th 9 = nI rl ∧ rk < 1000 ∧ rl < 1000
theorem TA.th {h : PH} {th rk rl : Nat} {a : Nat → Nat} (t : TA h th a rk rl) : TH h th rk rl (a 5) := ⟨t.2.1, t.2.2.1, (t.1 5 (by decide)).1, t.2.2.2.1, t.2.2.2.2, (t.1 5 (by decide)).2⟩
theorem TA.fr {lo hi : Nat} {h h' : PH} {th rk rl : Nat} {a : Nat → Nat} (t : TA h th a rk rl) (f : Fr lo hi h h') (hc : th < lo ∨ hi < th) : TA h' th a rk rl := ⟨fun i hi => ⟨(f.i hc).trans (t.1 i hi).1, (t.1 i hi).2⟩, (f.i hc).trans t.2.1, (f.i hc).trans t.2.2.1, t.2.2.2⟩
def scR (a : Nat → Nat) (rk rl : Nat) (u : Nat → Nat → Nat) (x : Nat → Int64) (k n s : Nat) : Int64 := anyS rk rl (a 5) u 0 (lN (a 2)) (-lN (a 3)) 0 0 (EV 0 (lN (a 4))) x k s n - lN (a 1 * s) * (sL64 x n * tenL k)
/-- a sledge: what the weeks are worth at its week's begin -/
def slV (q1 : Nat → Int64) (S M c : Nat) (w : Int64) : Nat → Int64 := fun s => if s ≤ S then q1 (s + M) - lN (c * M) * w else q1 s
def sgW (a : Nat → Nat) (rk rl : Nat) (u : Nat → Nat) (f S M c k s : Nat) : Int64 := VB rk rl (a 5) u 0 (lN (a 2)) (-lN (a 3)) 0 0 (tenL (k - f)) (slV (VB rk rl (a 5) u 0 (lN (a 2)) (-lN (a 3)) 0 0 1 (EV 0 (lN (a 4))) (k - f)) S M c (tenL (k - f))) f s
def sgR (a : Nat → Nat) (rk rl : Nat) (u : Nat → Nat → Nat) (x : Nat → Int64) (f S M c k n s : Nat) : Int64 := sL64 (fun w => x w * sgW a rk rl (u w) f S M c k s) n - lN (a 1 * s) * tenL (k + 1)
theorem VB_congr {rk rl so : Nat} {u : Nat → Nat} {sf : Nat} {pg pl pm ps ways : Int64} {V V' : Nat → Int64} : ∀ (i s : Nat), (∀ r, r ≤ s → V r = V' r) → VB rk rl so u sf pg pl pm ps ways V i s = VB rk rl so u sf pg pl pm ps ways V' i s
  | 0, s, h => h s (Nat.le_refl s)
  | i + 1, s, h => vbN_congr (fun r hr => VB_congr i r (fun r' hr' => h r' (by omega))) 4
/-- a second winter -/
def bhV (pe : Int64) (b : Nat) (wb : Int64) (an : Nat → Int64) : Nat → Int64 := fun s => lN (10 - b) * pe * lN s * wb + lN b * an s
def sdR (a : Nat → Nat) (rk rl : Nat) (u : Nat → Nat → Nat) (x : Nat → Int64) (b k n s : Nat) : Int64 := sL64 (fun w => x w * VB rk rl (a 5) (u w) 0 (lN (a 2)) (-lN (a 3)) 0 0 (tenL (k + 1) * 10) (bhV (lN (a 4)) b (tenL (k + 1)) (fun s => anyS rk rl (a 5) u 0 (lN (a 2)) (-lN (a 3)) 0 0 (EV 0 (lN (a 4))) x k s n)) k s) n - lN (a 1 * s) * tenL (2 * k + 3)
