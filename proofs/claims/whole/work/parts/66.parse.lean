/-! ===== reading: the automaton ===== -/
/-- what is told so far: numbers, names packed (kind, number), told flags (weeks, cases), wants told (4 * t + w) -/
abbrev PS : Type := PD × (Nat → Nat → Nat) × (Nat → Nat) × (Nat → Nat)
/-- the reading's state: what is told, the clause plus one (0: between), its column, its numbers -/
abbrev SG : Type := PS × Nat × Nat × (Nat → Nat)
/-- the first of c names that is V, plus one; 0: none -/
def fdN (g : Nat → Nat) (V : Nat) : Nat → Nat
  | 0 => 0
  | c + 1 => if fdN g V c ≠ 0 then fdN g V c else if g c = V then c + 1 else 0
theorem fdN_le {g : Nat → Nat} {V : Nat} : ∀ c, fdN g V c ≤ c
  | 0 => Nat.le_refl 0
  | c + 1 => by
    have := fdN_le (g := g) (V := V) c
    unfold fdN
    (repeat' split) <;> omega
theorem fdN_0 {g : Nat → Nat} {V : Nat} : ∀ c, (∀ i, i < c → g i ≠ V) → fdN g V c = 0
  | 0, _ => rfl
  | c + 1, h => by
    unfold fdN
    rw [fdN_0 c (fun i hi => h i (by omega)), if_neg (by omega), if_neg (h c (by omega))]
theorem fdN_at {g : Nat → Nat} {V i : Nat} (hi : g i = V) (hb : ∀ j, j < i → g j ≠ V) : ∀ c, i < c → fdN g V c = i + 1
  | 0, h => absurd h (Nat.not_lt_zero i)
  | c + 1, h => by
    unfold fdN
    by_cases q : i = c
    · subst q
      rw [fdN_0 i hb, if_neg (by omega), if_pos hi]
    · rw [fdN_at hi hb c (by omega), if_pos (by omega)]
def cntP (P : PD) (k : Nat) : Nat := if k = 2 then P 0 2 0 else if k = 3 then P 0 3 0 else P 0 4 0
def dueT : List (List Nat) := [[3], [3], [2, 3, 3, 3, 3], [2, 3, 3, 3, 3, 3, 3], [2, 2, 3, 3, 3, 3, 3], [2, 2, 3], [2, 3, 3, 3]]
/-- which kind of token is due -/
def dueK (k col : Nat) : Nat := (dueT.getD k []).getD col 4
def loT : List Nat := [1, 0, 0, 0, 0, 0, 0, 0, 0, 0, 0, 0, 0, 0, 0, 0, 0, 0, 0, 0, 0, 0, 1, 0, 0, 0, 0, 0, 0, 0, 0, 0, 0, 0, 0, 0, 0, 0, 0, 0, 0, 0, 0, 0, 1, 0, 0, 0, 0]
def hiT : List Nat := [5, 0, 0, 0, 0, 0, 0, 99, 0, 0, 0, 0, 0, 0, 0, 10, 10, 10, 10, 0, 0, 0, 9, 99, 99, 500, 99, 9, 0, 0, 10, 10, 10, 10, 3, 0, 0, 100, 0, 0, 0, 0, 0, 10, 500, 500, 0, 0, 0]
def loK (k col : Nat) : Nat := loT.getD (k * 7 + col) 0
def hiK (k col : Nat) : Nat := hiT.getD (k * 7 + col) 0
theorem leastT_n : ∀ j, j < 49 → leastT.getD j 0 = nI (loT.getD j 0) := by decide
theorem mostT_n : ∀ j, j < 49 → mostT.getD j 0 = nI (hiT.getD j 0) := by decide
theorem hiT_b : ∀ j, j < 49 → hiT.getD j 0 ≤ 500 ∧ loT.getD j 0 ≤ 1 := by decide
def wOk (P : PD) : Prop := P 0 2 0 = 0 ∨ sm (fun w => P 1 w 0) (P 0 2 0) = 10
abbrev lcK (k col : Nat) : Prop := (k = 2 ∧ col = 4) ∨ (k = 4 ∧ col = 5)
/-- the chances from column 2 on -/
def csN (num : Nat → Nat) (col : Nat) : Nat := sm (fun i => num (2 + i)) (col - 2)
def numF (k col V : Nat) (num : Nat → Nat) : Nat := if V < loK k col ∨ hiK k col < V then 2 else if k = 3 ∧ col = 6 ∧ V = 1 then 2 else if lcK k col ∧ V + csN num col ≠ 10 then 7 else 0
def knF (x : Nat) : Nat := if x = 0 then 5 else 0
def nameF (S : PS) (k col V : Nat) (num : Nat → Nat) : Nat :=
  if k = 4 then (if col = 0 then knF (fdN (S.2.1 3) V (S.1 0 3 0)) else if fdN (S.2.1 2) V (S.1 0 2 0) = 0 then 5 else if S.2.2.2 (4 * num 0 + (fdN (S.2.1 2) V (S.1 0 2 0) - 1)) = 1 then 3 else 0)
  else if k = 5 then (if col = 0 then knF (fdN (S.2.1 3) V (S.1 0 3 0)) else if fdN (S.2.1 3) V (S.1 0 3 0) = 0 then 5 else if fdN (S.2.1 3) V (S.1 0 3 0) - 1 = num 0 ∨ S.1 4 (fdN (S.2.1 3) V (S.1 0 3 0) - 1) 0 ≠ 0 then 3 else 0)
  else if fdN (S.2.1 k) V (cntP S.1 k) = 0 then 0 else 3
/-- the fault of a clause's first word (c: the clause plus one) -/
def kwFt (S : PS) (c : Nat) : Nat := if c = 0 then 1 else if c = 1 then (if S.2.2.1 0 = 1 then 3 else if 0 < S.1 0 5 0 then 6 else 0) else if c = 2 then (if S.2.2.1 1 = 1 then 3 else 0) else if c = 3 then (if S.1 0 2 0 < 4 then 0 else 4) else if c = 4 then (if S.1 0 3 0 < 4 then 0 else 4) else if c = 7 then (if S.1 0 4 0 < 6 then 0 else 4) else 0
noncomputable def btwF (S : PS) (K V : Nat) : Nat := if K = 0 then (@ite Nat (wOk S.1) (Classical.propDecidable _) 0 7) else if K = 2 then kwFt S (kw V) else 1
noncomputable def fOf (σ : SG) (K V : Nat) : Nat := if σ.2.1 = 0 then btwF σ.1 K V else if K ≠ dueK (σ.2.1 - 1) σ.2.2.1 then 1 else if K = 3 then numF (σ.2.1 - 1) σ.2.2.1 V σ.2.2.2 else if K = 2 then nameF σ.1 (σ.2.1 - 1) σ.2.2.1 V σ.2.2.2 else 0
def upN (f : Nat → Nat) (i v : Nat) : Nat → Nat := fun j => if j = i then v else f j
def nameI (S : PS) (k col V : Nat) : Nat := if k = 4 ∧ col = 1 then fdN (S.2.1 2) V (S.1 0 2 0) - 1 else if k = 4 ∨ k = 5 then fdN (S.2.1 3) V (S.1 0 3 0) - 1 else cntP S.1 k
def nameS (S : PS) (k V : Nat) : PS := if k = 4 ∨ k = 5 then S else (S.1, (fun a b => if a = k ∧ b = cntP S.1 k then V else S.2.1 a b), S.2.2)
/-- a row of what is told, changed -/
def upP (P : PD) (a b : Nat) (f : Nat → Nat) : PD := fun x y z => if x = a ∧ y = b then f z else P x y z
def untold (P : PD) (t : Nat) : PD := fun x y z => if x = 3 ∧ y / 4 = t then (if z = 0 then 10 else 0) else if (x = 4 ∨ x = 5) ∧ y = t then 0 else P x y z
def setP (P : PD) (k : Nat) (num : Nat → Nat) : PD :=
  if k = 0 then upP P 0 0 (fun _ => num 0) else if k = 1 then upP P 0 1 (fun _ => num 0)
  else if k = 2 then upP (upP P 1 (num 0) (fun a => num (a + 1))) 0 2 (fun _ => P 0 2 0 + 1)
  else if k = 3 then upP (upP (untold P (num 0)) 2 (num 0) (fun a => num (a + 1))) 0 3 (fun _ => P 0 3 0 + 1)
  else if k = 4 then upP P 3 (4 * num 0 + num 1) (fun n => num (2 + n))
  else if k = 5 then upP (upP P 4 (num 1) (fun _ => num 0 + 1)) 5 (num 1) (fun _ => num 2)
  else upP (upP P 6 (num 0) (fun a => num (a + 1))) 0 4 (fun _ => P 0 4 0 + 1)
def setW (S : PS) (k : Nat) (num : Nat → Nat) : Nat → Nat := fun j => if k = 3 ∧ j / 4 = num 0 then 0 else if k = 4 ∧ j = 4 * num 0 + num 1 then 1 else S.2.2.2 j
def settl (S : PS) (k : Nat) (num : Nat → Nat) : PS := (upP (setP S.1 k num) 0 5 (fun _ => S.1 0 5 0 + 1), S.2.1, (fun j => if (j = 0 ∧ k = 0) ∨ (j = 1 ∧ k = 1) then 1 else S.2.2.1 j), setW S k num)
def nxt (σ : SG) (K V : Nat) : SG := if σ.2.1 = 0 then (σ.1, kw V, 0, σ.2.2.2) else if K = 4 then (settl σ.1 (σ.2.1 - 1) σ.2.2.2, 0, σ.2.2.1, σ.2.2.2) else if K = 3 then (σ.1, σ.2.1, σ.2.2.1 + 1, upN σ.2.2.2 σ.2.2.1 V) else (nameS σ.1 (σ.2.1 - 1) V, σ.2.1, σ.2.2.1 + 1, upN σ.2.2.2 σ.2.2.1 (nameI σ.1 (σ.2.1 - 1) σ.2.2.1 V))
/-- the run: (the fault's kind, its place), what is told; f bounds the tokens -/
noncomputable def pRun (T : Nat → Int32) (n : Nat) : Nat → SG → Nat → (Nat × Nat) × PS
  | 0, σ, _ => ((1, 0), σ.1)
  | f + 1, σ, p => if fOf σ (tkK T n (rn cBl T n p)) (tkV T n (rn cBl T n p)) ≠ 0 then ((fOf σ (tkK T n (rn cBl T n p)) (tkV T n (rn cBl T n p)), rn cBl T n p), σ.1) else if tkK T n (rn cBl T n p) = 0 then ((0, 0), σ.1) else pRun T n f (nxt σ (tkK T n (rn cBl T n p)) (tkV T n (rn cBl T n p))) (tkE T n (rn cBl T n p))
theorem pRun_f {T : Nat → Int32} {n : Nat} : ∀ f g σ p, p ≤ n → n - p < f → n - p < g → pRun T n f σ p = pRun T n g σ p
  | 0, _, _, _, _, h, _ => absurd h (Nat.not_lt_zero _)
  | f + 1, 0, _, _, _, _, h => absurd h (Nat.not_lt_zero _)
  | f + 1, g + 1, σ, p, hp, h1, h2 => by
    unfold pRun
    split
    · rfl
    · split
      · rfl
      · rename_i q
        have hs : rn cBl T n p < n := by
          have := mt tkK_0.mpr q
          omega
        have e1 := tkE_gt (T := T) hs
        have e2 := tkE_le (T := T) (Nat.le_of_lt hs)
        have e3 := rn_ge (c := cBl) (T := T) (n := n) (p := p)
        exact pRun_f f g _ _ e2 (by omega) (by omega)
noncomputable def pRn (T : Nat → Int32) (n : Nat) (σ : SG) (p : Nat) : (Nat × Nat) × PS := pRun T n (n + 1) σ p
theorem pRn_fail {T : Nat → Int32} {n p : Nat} {σ : SG} (h : fOf σ (tkK T n (rn cBl T n p)) (tkV T n (rn cBl T n p)) ≠ 0) : pRn T n σ p = ((fOf σ (tkK T n (rn cBl T n p)) (tkV T n (rn cBl T n p)), rn cBl T n p), σ.1) := if_pos h
theorem pRn_end {T : Nat → Int32} {n p : Nat} {σ : SG} (h : fOf σ (tkK T n (rn cBl T n p)) (tkV T n (rn cBl T n p)) = 0) (h0 : tkK T n (rn cBl T n p) = 0) : pRn T n σ p = ((0, 0), σ.1) := by
  show (if _ then _ else _) = _
  rw [if_neg (by rw [h]; exact fun z => z rfl), if_pos h0]
theorem pRn_go {T : Nat → Int32} {n p : Nat} {σ : SG} (hp : p ≤ n) (h : fOf σ (tkK T n (rn cBl T n p)) (tkV T n (rn cBl T n p)) = 0) (h0 : tkK T n (rn cBl T n p) ≠ 0) : pRn T n σ p = pRn T n (nxt σ (tkK T n (rn cBl T n p)) (tkV T n (rn cBl T n p))) (tkE T n (rn cBl T n p)) := by
  have hs : rn cBl T n p < n := by
    have := mt tkK_0.mpr h0
    omega
  have e2 := tkE_le (T := T) (Nat.le_of_lt hs)
  have e1 := tkE_gt (T := T) hs
  show (if _ then _ else if _ then _ else _) = _
  rw [if_neg (by rw [h]; exact fun z => z rfl), if_neg h0]
  exact pRun_f n (n + 1) _ _ e2 (by omega) (by omega)
/-- the start: nothing is told -/
def P00 : PD := fun x y _ => if x = 0 ∧ y = 0 then 4 else if x = 0 ∧ y = 1 then 40 else 0
def S00 : PS := (P00, fun _ _ => 0, fun _ => 0, fun _ => 0)
def G00 : SG := (S00, 0, 0, fun _ => 0)
/-- a post's answer -/
noncomputable def postR (A : AS) : (Nat × Nat) × PS := pRn (aT A) (aN A) G00 0
abbrev wP (A : AS) (P : PD) : AS := (A.1, A.2.1, P, (fun _ _ => 0), A.2.2.2.2.1, (0, (aL A).2), (fun r k => if k = 0 then 0 else aR A r k), A.2.2.2.2.2.2.2.1, A.2.2.2.2.2.2.2.2)
abbrev wF (A : AS) (f : Int32 × Int32) : AS := (A.1, A.2.1, A.2.2.1, A.2.2.2.1, f, A.2.2.2.2.2)
noncomputable def postA (A : AS) : Int32 := if (postR A).1.1 = 0 then nI ((postR A).2.1 0 5 0) else -1
noncomputable def postS (A : AS) : AS := if (postR A).1.1 = 0 then wP (wF (eA A) (nI 0, -1)) (postR A).2.1 else wF (eA A) (nI (postR A).1.1, nI (postR A).1.2)
