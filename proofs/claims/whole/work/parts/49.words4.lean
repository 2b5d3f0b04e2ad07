/-! ===== draws, and a week of a run ===== -/
def dr (s : Nat) : Nat := (1103515245 * s + 12345) % 2147483648
def dv (s : Nat) : Nat := s / 65536 % 10
theorem dr_lt (s : Nat) : dr s < 2147483648 := Nat.mod_lt _ (by decide)
theorem dv_lt (s : Nat) : dv s < 10 := Nat.mod_lt _ (by decide)
/-- of n and one kinds the one into which d falls -/
def fk (u : Nat → Nat) (d : Nat) : Nat → Nat
  | 0 => 0
  | n + 1 => if sm u (n + 1) ≤ d then n + 1 else fk u d n
theorem fk_le {u : Nat → Nat} {d : Nat} : ∀ n, fk u d n ≤ n
  | 0 => Nat.le_refl 0
  | n + 1 => by
    have := fk_le (u := u) (d := d) n
    unfold fk
    split <;> omega
theorem sm_mono {u : Nat → Nat} {k : Nat} : ∀ n, sm u k ≤ sm u (k + n)
  | 0 => Nat.le_refl _
  | n + 1 => Nat.le_trans (sm_mono n) (Nat.le_add_right _ _)
theorem fk_at {u : Nat → Nat} {d k : Nat} (h1 : sm u k ≤ d) : ∀ n, k ≤ n → (k < n → d < sm u (k + 1)) → fk u d n = k
  | 0, h, _ => by
    have : k = 0 := by omega
    rw [this]
    rfl
  | n + 1, h, h2 => by
    unfold fk
    by_cases q : k = n + 1
    · rw [← q, if_pos h1]
    · have m := sm_mono (u := u) (k := k + 1) (n - k)
      rw [show k + 1 + (n - k) = n + 1 by omega] at m
      have h3 := h2 (by omega)
      rw [if_neg (by omega)]
      exact fk_at h1 n (by omega) (fun _ => h3)
/-- a thing's rows behind a week in which n are wanted -/
def tW (rk rl so ne : Nat) (x : Nat → Nat) (n i : Nat) : Nat := if i = 0 then nxN rk rl so ne (x 0) n else if i = 1 then x 1 + gvN rk rl (x 0) n ne else if i = 2 then x 2 + lkN (x 0) n ne else if i = 3 then x 3 + msN rk rl (x 0) n ne else if i = 4 then x 4 + slN so (rsN rk rl (x 0) n ne) else if i = 5 then n + 1 else x i
def wkT (P : PD) (U : RD) (w : Nat) (W : Nat → Nat → Nat) (s : Nat) : Nat → (Nat → Nat → Nat) × Nat
  | 0 => (W, s)
  | t + 1 => (fun i j => if j = t then tW (U t 0) (U t 1) (P 2 t 5) (P 3 (4 * t + w) 4) (fun i => (wkT P U w W s t).1 i t) (fk (P 3 (4 * t + w)) (dv (dr (wkT P U w W s t).2)) 3) i else (wkT P U w W s t).1 i j, dr (wkT P U w W s t).2)
theorem wkT_hi {P : PD} {U : RD} {w s : Nat} {W : Nat → Nat → Nat} : ∀ t i j, t ≤ j → (wkT P U w W s t).1 i j = W i j
  | 0, _, _, _ => rfl
  | t + 1, i, j, h => by
    show (if j = t then _ else (wkT P U w W s t).1 i j) = _
    rw [if_neg (by omega), wkT_hi t i j (by omega)]
theorem wkT_s {P : PD} {U : RD} {w s : Nat} {W : Nat → Nat → Nat} (hs : s < 2147483648) : ∀ t, (wkT P U w W s t).2 < 2147483648
  | 0 => hs
  | t + 1 => dr_lt _
def gR (P : PD) (R : Nat → Nat) (s k : Nat) : Nat := if k = 2 then R 2 + 1 else if k = 3 then fk (fun k => P 1 (R 1) (k + 1)) (dv (dr s)) 2 + 1 else R k
abbrev stW (A : AS) (t : Nat) : (Nat → Nat → Nat) × Nat := wkT (aP A) (aU A) (aR A 0 1) (aW A 0) (dr (aS A 0)) t
def stepA (A : AS) : AS := wRn A 0 (gR (aP A) (aR A 0) (aS A 0)) (stW A (aP A 0 3 0)).1 (stW A (aP A 0 3 0)).2
def goN (A : AS) : Nat → AS
  | 0 => A
  | n + 1 => stepA (goN A n)
theorem goN_P {A : AS} : ∀ n, aP (goN A n) = aP A
  | 0 => rfl
  | n + 1 => goN_P n
theorem stepA_R {A : AS} {k : Nat} : aR (stepA A) 0 k = gR (aP A) (aR A 0) (aS A 0) k := rfl
theorem goN_on {A : AS} (h : aR A 0 0 = 1) : ∀ n, aR (goN A n) 0 0 = 1
  | 0 => h
  | n + 1 => goN_on h n
theorem goN_2 {A : AS} : ∀ n, aR (goN A n) 0 2 = aR A 0 2 + n
  | 0 => rfl
  | n + 1 => by
    show aR (goN A n) 0 2 + 1 = _
    rw [goN_2 n]
    omega
theorem gv_wa (rk rl s wa ne : Nat) : gvN rk rl s wa ne ≤ wa := by
  have h1 := nm_le s wa ne
  have h2 := wm_le rk rl s wa ne
  have h3 : wsN rk rl s wa ne ≤ wa - min wa ne := by
    unfold wsN
    split <;> omega
  rw [gv_eq]
  omega
theorem lk_wa (s wa ne : Nat) : lkN s wa ne ≤ wa := by
  unfold lkN
  omega
theorem ms_wa (rk rl s wa ne : Nat) : msN rk rl s wa ne ≤ wa := by
  have := ws_le rk rl s wa ne
  unfold msN
  omega
def OkX (x : Nat → Nat) (r : Nat) : Prop := x 0 ≤ 40 ∧ x 1 ≤ 3 * r ∧ x 2 ≤ 3 * r ∧ x 3 ≤ 3 * r ∧ x 4 ≤ 40 * r ∧ x 5 ≤ 4 ∧ x 6 ≤ 40
theorem tW_ok {rk rl so ne n r : Nat} {x : Nat → Nat} (h : OkX x r) (hn : n ≤ 3) : OkX (tW rk rl so ne x n) (r + 1) := by
  obtain ⟨h0, h1, h2, h3, h4, h5, h6⟩ := h
  have e0 := nx_le rk rl so ne (x 0) n
  have e1 := gv_wa rk rl (x 0) n ne
  have e2 := lk_wa (x 0) n ne
  have e3 := ms_wa rk rl (x 0) n ne
  have e4 := sl_le so (rsN rk rl (x 0) n ne)
  have e5 := rs_le rk rl (x 0) n ne
  exact ⟨by show nxN rk rl so ne (x 0) n ≤ 40; omega, by show x 1 + gvN rk rl (x 0) n ne ≤ _; omega, by show x 2 + lkN (x 0) n ne ≤ _; omega, by show x 3 + msN rk rl (x 0) n ne ≤ _; omega, by show x 4 + slN so (rsN rk rl (x 0) n ne) ≤ _; omega, by show n + 1 ≤ 4; omega, h6⟩
theorem wkT_ok {P : PD} {U : RD} {w s r : Nat} {W : Nat → Nat → Nat} (h : ∀ t, t < P 0 3 0 → OkX (fun i => W i t) r) : ∀ t, ∀ j, j < P 0 3 0 → (j < t → OkX (fun i => (wkT P U w W s t).1 i j) (r + 1)) ∧ (t ≤ j → OkX (fun i => (wkT P U w W s t).1 i j) r)
  | 0, j, hj => ⟨fun z => absurd z (Nat.not_lt_zero j), fun _ => h j hj⟩
  | t + 1, j, hj => by
    have ih := wkT_ok (U := U) (w := w) (s := s) h t j hj
    by_cases q : j = t
    · refine ⟨fun _ => ?_, fun z => by omega⟩
      have e : (fun i => (wkT P U w W s (t + 1)).1 i j) = tW (U t 0) (U t 1) (P 2 t 5) (P 3 (4 * t + w) 4) (fun i => (wkT P U w W s t).1 i t) (fk (P 3 (4 * t + w)) (dv (dr (wkT P U w W s t).2)) 3) := by
        funext i
        exact if_pos q
      rw [e]
      refine tW_ok ?_ (fk_le 3)
      have z := ih.2 (by omega)
      rw [q] at z
      exact z
    · have e : (fun i => (wkT P U w W s (t + 1)).1 i j) = fun i => (wkT P U w W s t).1 i j := by
        funext i
        exact if_neg q
      rw [e]
      exact ⟨fun z => ih.1 (by omega), fun z => ih.2 (by omega)⟩
theorem WF.x7 {A : AS} (a : WF A) (hon : aR A 0 0 = 1) {t : Nat} (ht : t < aP A 0 3 0) : OkX (fun i => aW A 0 i t) (aR A 0 2) := ((a.rn (r := 0) (by decide)).2 hon).2.2.2.2 t ht
theorem WF.step {A : AS} (a : WF A) (hon : aR A 0 0 = 1) (hk : aR A 0 2 < aP A 0 0 0) : WF (stepA A) := by
  have o := a.rn (r := 0) (by decide)
  obtain ⟨h1, h2, h3, h4, h5⟩ := o.2 hon
  refine a.run ⟨o.1, fun _ => ⟨h1, hk, ?_, wkT_s (dr_lt _) _, fun t ht => ?_⟩⟩
  · show fk _ _ 2 + 1 ≤ 3
    have := fk_le (u := fun k => aP A 1 (aR A 0 1) (k + 1)) (d := dv (dr (aS A 0))) 2
    omega
  · exact (wkT_ok (U := aU A) (w := aR A 0 1) (s := dr (aS A 0)) (r := aR A 0 2) (fun t ht => a.x7 hon ht) (aP A 0 3 0) t ht).1 ht
theorem WF.goN {A : AS} (a : WF A) (hon : aR A 0 0 = 1) : ∀ n, aR A 0 2 + n ≤ aP A 0 0 0 → WF (goN A n)
  | 0, _ => a
  | n + 1, h => (a.goN hon n (by omega)).step (goN_on hon n) (by rw [goN_2, goN_P]; omega)
def goA (A : AS) (n : Int32) : Int32 := if inR n 6 then (if aR A 0 0 = 1 then (if aR A 0 2 + cl n ≤ aP A 0 0 0 then nI (aR A 0 2 + cl n) else -2) else -4) else -2
def goS (A : AS) (n : Int32) : AS := if inR n 6 ∧ aR A 0 0 = 1 ∧ aR A 0 2 + cl n ≤ aP A 0 0 0 then goN A (cl n) else A
/-! ===== a list told, and a run's begin ===== -/
abbrev rowOk (P : PD) (T : Nat → Int32) (n : Nat) : Prop := n = P 0 3 0 ∧ ∀ t, t < n → inR (T t - nI 48) 41
def rq (T : Nat → Int32) (t : Nat) : Nat := cl (T t - nI 48)
theorem rq_eq {T : Nat → Int32} {t : Nat} (h : inR (T t - nI 48) 41) : T t - nI 48 = nI (rq T t) ∧ rq T t < 41 := inR_cl h (by decide)
def bgR (P : PD) (s k : Nat) : Nat := if k = 0 then 1 else if k = 1 then fk (fun w => P 1 w 0) (dv (dr s)) (P 0 2 0 - 1) else 0
def bgW (T : Nat → Int32) (i t : Nat) : Nat := if i = 0 then rq T t else if i = 6 then rq T t else 0
def bgA (A : AS) (s : Nat) : AS := wRn (eA A) 0 (bgR (aP A) s) (bgW (aT A)) (dr s)
theorem WF.bg {A : AS} (a : WF A) {s : Nat} (hn : 0 < aP A 0 2 0) (hr : rowOk (aP A) (aT A) (aN A)) : WF (bgA A s) := by
  refine a.emp.run ⟨by show 1 < 2; decide, fun _ => ⟨?_, Nat.zero_le _, Nat.zero_le _, dr_lt s, fun t ht => ?_⟩⟩
  · show fk _ _ (aP A 0 2 0 - 1) < aP A 0 2 0
    have := fk_le (u := fun w => aP A 1 w 0) (d := dv (dr s)) (aP A 0 2 0 - 1)
    omega
  · have h := (rq_eq (hr.2 t (by rw [hr.1]; exact ht))).2
    exact ⟨by show rq _ t ≤ 40; omega, Nat.zero_le _, Nat.zero_le _, Nat.zero_le _, Nat.zero_le _, Nat.zero_le _, by show rq _ t ≤ 40; omega⟩
def beginA (A : AS) (s : Int32) : Int32 := if s < 0 then -2 else if aP A 0 2 0 = 0 then -4 else if rowOk (aP A) (aT A) (aN A) then nI (bgR (aP A) (cl s) 1) else -1
def beginS (A : AS) (s : Int32) : AS := if ¬ s < 0 ∧ 0 < aP A 0 2 0 ∧ rowOk (aP A) (aT A) (aN A) then bgA A (cl s) else eA A
