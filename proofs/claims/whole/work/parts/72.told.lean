/-! ===== settled clauses: the class ===== -/
theorem upP_s {P : PD} {a b z : Nat} {f : Nat → Nat} : upP P a b f a b z = f z := if_pos ⟨rfl, rfl⟩
theorem upP_k {P : PD} {a b x y z : Nat} {f : Nat → Nat} (h : y ≠ b) : upP P a b f x y z = P x y z := if_neg (fun q => h q.2)
theorem upP_f {P : PD} {a b x y z : Nat} {f : Nat → Nat} (h : x ≠ a) : upP P a b f x y z = P x y z := if_neg (fun q => h q.1)
/-- the Post's cells alone -/
def Rs (d : Nat) (h h' : PH) : Prop := (∀ c, ¬ (d ≤ c ∧ c ≤ d + 42) → h'.1 c = h.1 c ∧ h'.2.1 c = h.2.1 c) ∧ h'.2.2 = h.2.2
theorem Rs.rf {d : Nat} {h : PH} : Rs d h h := ⟨fun _ _ => ⟨rfl, rfl⟩, rfl⟩
theorem Rs.tr {d : Nat} {h h1 h2 : PH} (a : Rs d h h1) (b : Rs d h1 h2) : Rs d h h2 := ⟨fun c hc => ⟨(b.1 c hc).1.trans (a.1 c hc).1, (b.1 c hc).2.trans (a.1 c hc).2⟩, b.2.trans a.2⟩
theorem Rs.s {d : Nat} {h : PH} {c k : Nat} {x : Int32} (h1 : d ≤ c) (h2 : c ≤ d + 42) : Rs d h (sI h c k x) := ⟨fun a ha => ⟨rW_c (by omega), rfl⟩, rfl⟩
theorem Rs.sl {d : Nat} {h : PH} {c k : Nat} {x : Int64} (h1 : d ≤ c) (h2 : c ≤ d + 42) : Rs d h (sL h c k x) := ⟨fun a ha => ⟨rfl, rWL_c (by omega)⟩, rfl⟩
theorem Rs.i {d : Nat} {h h' : PH} (a : Rs d h h') {c k : Nat} (hc : ¬ (d ≤ c ∧ c ≤ d + 42)) : h'.1 c k = h.1 c k := congrFun (a.1 c hc).1 k
theorem NmX.e {h h' : PH} {T : Nat → Int32} {j V : Nat} (a : NmX h T j V) (e1 : h'.1 90 j = h.1 90 j) (e2 : h'.1 91 j = h.1 91 j) : NmX h' T j V := by
  obtain ⟨x, l, y1, y2, y3⟩ := a
  exact ⟨x, l, e1.trans y1, e2.trans y2, y3⟩
theorem all3 {P : Nat → Prop} (h0 : P 0) (h1 : P 1) (h2 : P 2) : ∀ w, w < 3 → P w
  | 0, _ => h0
  | 1, _ => h1
  | 2, _ => h2
  | _ + 3, h => absurd h (by omega)
theorem all4 {P : Nat → Prop} (h0 : P 0) (h1 : P 1) (h2 : P 2) (h3 : P 3) : ∀ w, w < 4 → P w
  | 0, _ => h0
  | 1, _ => h1
  | 2, _ => h2
  | 3, _ => h3
  | _ + 4, h => absurd h (by omega)
theorem all5 {P : Nat → Prop} (h0 : P 0) (h1 : P 1) (h2 : P 2) (h3 : P 3) (h4 : P 4) : ∀ w, w < 5 → P w
  | 0, _ => h0
  | 1, _ => h1
  | 2, _ => h2
  | 3, _ => h3
  | 4, _ => h4
  | _ + 5, h => absurd h (by omega)
theorem all6 {P : Nat → Prop} (h0 : P 0) (h1 : P 1) (h2 : P 2) (h3 : P 3) (h4 : P 4) (h5 : P 5) : ∀ w, w < 6 → P w
  | 0, _ => h0
  | 1, _ => h1
  | 2, _ => h2
  | 3, _ => h3
  | 4, _ => h4
  | 5, _ => h5
  | _ + 6, h => absurd h (by omega)
/-- what a settled clause makes of what is told, its count aside -/
def setS (S : PS) (k : Nat) (num : Nat → Nat) : PS := (setP S.1 k num, S.2.1, (fun j => if (j = 0 ∧ k = 0) ∨ (j = 1 ∧ k = 1) then 1 else S.2.2.1 j), setW S k num)
/-- weeks, cases: one number and its flag -/
theorem Rp.wk {h h' : PH} {d b : Nat} {T : Nat → Int32} {S : PS} {num : Nat → Nat} (a : Rp h d T S) (hO : OkS S b) (F : ∀ c k, c ≠ d → h'.1 c k = h.1 c k) (D : ∀ k, k ≠ 0 → k ≠ 6 → h'.1 d k = h.1 d k) (v0 : h'.1 d 0 = nI (num 0)) (v6 : h'.1 d 6 = nI 1) (r : h'.2 = h.2) : Rp h' d T (setS S 0 num) := by
  have p := a.1.1.b
  obtain ⟨⟨-, -, w4, t4, f6, -⟩, -⟩ := id hO.1
  obtain ⟨a1, ⟨⟨x0, x1, x2, x3, x4, x5⟩, a3, a4, a5, a6, a7, a8⟩, ⟨a9, a10⟩, a11, a12, a13⟩ := a
  refine ⟨⟨a1.1, by rw [r]; exact a1.2⟩, ⟨⟨v0, (D 1 (by decide) (by decide)).trans x1, (D 2 (by decide) (by decide)).trans x2, (D 3 (by decide) (by decide)).trans x3, (D 4 (by decide) (by decide)).trans x4, (D 5 (by decide) (by decide)).trans x5⟩, fun w hw => by rw [r]; exact a3 w hw, fun w hw k hk => (F _ _ (by omega)).trans (a4 w hw k hk), fun t ht k hk => (F _ _ (by omega)).trans (a5 t ht k hk), fun t ht w hw k hk => (F _ _ (by omega)).trans (a6 t ht w hw k hk), fun t ht => ⟨(F _ _ (by omega)).trans (a7 t ht).1, fun z => (F _ _ (by omega)).trans ((a7 t ht).2 z)⟩, fun t ht k hk => (F _ _ (by omega)).trans (a8 t ht k hk)⟩, ⟨v6, (D 7 (by decide) (by decide)).trans a10⟩, fun t ht w hw => (F _ _ (by omega)).trans (a11 t ht w hw), fun t ht => ⟨(F _ _ (by omega)).trans (a12 t ht).1, (F _ _ (by omega)).trans (a12 t ht).2⟩, fun k hk i hi => ?_⟩
  have e : cntP (setS S 0 num).1 k = cntP S.1 k := by rcases hk with rfl | rfl | rfl <;> rfl
  rw [e] at hi
  exact (a13 k hk i hi).e (F _ _ (by omega)) (F _ _ (by omega))
theorem Rp.cs {h h' : PH} {d b : Nat} {T : Nat → Int32} {S : PS} {num : Nat → Nat} (a : Rp h d T S) (hO : OkS S b) (F : ∀ c k, c ≠ d → h'.1 c k = h.1 c k) (D : ∀ k, k ≠ 1 → k ≠ 7 → h'.1 d k = h.1 d k) (v0 : h'.1 d 1 = nI (num 0)) (v6 : h'.1 d 7 = nI 1) (r : h'.2 = h.2) : Rp h' d T (setS S 1 num) := by
  have p := a.1.1.b
  obtain ⟨⟨-, -, w4, t4, f6, -⟩, -⟩ := id hO.1
  obtain ⟨a1, ⟨⟨x0, x1, x2, x3, x4, x5⟩, a3, a4, a5, a6, a7, a8⟩, ⟨a9, a10⟩, a11, a12, a13⟩ := a
  refine ⟨⟨a1.1, by rw [r]; exact a1.2⟩, ⟨⟨(D 0 (by decide) (by decide)).trans x0, v0, (D 2 (by decide) (by decide)).trans x2, (D 3 (by decide) (by decide)).trans x3, (D 4 (by decide) (by decide)).trans x4, (D 5 (by decide) (by decide)).trans x5⟩, fun w hw => by rw [r]; exact a3 w hw, fun w hw k hk => (F _ _ (by omega)).trans (a4 w hw k hk), fun t ht k hk => (F _ _ (by omega)).trans (a5 t ht k hk), fun t ht w hw k hk => (F _ _ (by omega)).trans (a6 t ht w hw k hk), fun t ht => ⟨(F _ _ (by omega)).trans (a7 t ht).1, fun z => (F _ _ (by omega)).trans ((a7 t ht).2 z)⟩, fun t ht k hk => (F _ _ (by omega)).trans (a8 t ht k hk)⟩, ⟨(D 6 (by decide) (by decide)).trans a9, v6⟩, fun t ht w hw => (F _ _ (by omega)).trans (a11 t ht w hw), fun t ht => ⟨(F _ _ (by omega)).trans (a12 t ht).1, (F _ _ (by omega)).trans (a12 t ht).2⟩, fun k hk i hi => ?_⟩
  have e : cntP (setS S 1 num).1 k = cntP S.1 k := by rcases hk with rfl | rfl | rfl <;> rfl
  rw [e] at hi
  exact (a13 k hk i hi).e (F _ _ (by omega)) (F _ _ (by omega))
/-- the count of clauses -/
def incS (S : PS) : PS := (upP S.1 0 5 (fun _ => S.1 0 5 0 + 1), S.2)
theorem Rp.inc {h h' : PH} {d b : Nat} {T : Nat → Int32} {S : PS} (a : Rp h d T S) (hO : OkS S b) (F : ∀ c k, c ≠ d → c ≠ 88 → h'.1 c k = h.1 c k) (D : ∀ k, k ≠ 2 → h'.1 d k = h.1 d k) (v : h'.1 d 2 = nI (S.1 0 5 0 + 1)) (r : h'.2 = h.2) : Rp h' d T (incS S) := by
  have p := a.1.1.b
  obtain ⟨⟨-, -, w4, t4, f6, -⟩, -⟩ := id hO.1
  obtain ⟨a1, ⟨⟨x0, x1, x2, x3, x4, x5⟩, a3, a4, a5, a6, a7, a8⟩, ⟨a9, a10⟩, a11, a12, a13⟩ := a
  refine ⟨⟨a1.1, by rw [r]; exact a1.2⟩, ⟨⟨(D 0 (by decide)).trans x0, (D 1 (by decide)).trans x1, v, (D 3 (by decide)).trans x3, (D 4 (by decide)).trans x4, (D 5 (by decide)).trans x5⟩, fun w (hw : w < S.1 0 2 0) => by rw [r]; exact a3 w hw, fun w (hw : w < S.1 0 2 0) k hk => (F _ _ (by omega) (by omega)).trans (a4 w hw k hk), fun t (ht : t < S.1 0 3 0) k hk => (F _ _ (by omega) (by omega)).trans (a5 t ht k hk), fun t (ht : t < S.1 0 3 0) w hw k hk => (F _ _ (by omega) (by omega)).trans (a6 t ht w hw k hk), fun t (ht : t < S.1 0 3 0) => ⟨(F _ _ (by omega) (by omega)).trans (a7 t ht).1, fun z => (F _ _ (by omega) (by omega)).trans ((a7 t ht).2 z)⟩, fun t (ht : t < S.1 0 4 0) k hk => (F _ _ (by omega) (by omega)).trans (a8 t ht k hk)⟩, ⟨(D 6 (by decide)).trans a9, (D 7 (by decide)).trans a10⟩, fun t (ht : t < S.1 0 3 0) w hw => (F _ _ (by omega) (by omega)).trans (a11 t ht w hw), fun t (ht : t < S.1 0 3 0) => ⟨(F _ _ (by omega) (by omega)).trans (a12 t ht).1, (F _ _ (by omega) (by omega)).trans (a12 t ht).2⟩, fun k hk i hi => ?_⟩
  have e : cntP (incS S).1 k = cntP S.1 k := by rcases hk with rfl | rfl | rfl <;> rfl
  rw [e] at hi
  exact (a13 k hk i hi).e (F _ _ (by omega) (by omega)) (F _ _ (by omega) (by omega))
