/-! ===== settled clauses, one by one ===== -/
theorem set2_s {P : PD} {num : Nat → Nat} {a : Nat} : setP P 2 num 1 (num 0) a = num (a + 1) := upP_s (P := P) (a := 1) (b := num 0) (z := a) (f := fun a => num (a + 1))
theorem set2_k {P : PD} {num : Nat → Nat} {w a : Nat} (q : w ≠ num 0) : setP P 2 num 1 w a = P 1 w a := upP_k (P := P) (a := 1) (b := num 0) (x := 1) (z := a) (f := fun a => num (a + 1)) q
theorem untold_s {P : PD} {t y z : Nat} (h : y / 4 = t) : untold P t 3 y z = if z = 0 then 10 else 0 := if_pos ⟨rfl, h⟩
theorem untold_k {P : PD} {t y z : Nat} (h : y / 4 ≠ t) : untold P t 3 y z = P 3 y z := by
  unfold untold
  rw [if_neg (fun q => h q.2), if_neg (fun q => absurd q.1 (by decide))]
theorem untold_4 {P : PD} {t y z : Nat} (h : y ≠ t) : untold P t 4 y z = P 4 y z ∧ untold P t 5 y z = P 5 y z := by
  unfold untold
  exact ⟨by rw [if_neg (fun q => absurd q.1 (by decide)), if_neg (fun q => h q.2)], by rw [if_neg (fun q => absurd q.1 (by decide)), if_neg (fun q => h q.2)]⟩
theorem untold_0 {P : PD} {t z : Nat} : untold P t 4 t z = 0 := by
  unfold untold
  rw [if_neg (fun q => absurd q.1 (by decide)), if_pos ⟨Or.inl rfl, rfl⟩]
theorem set3_s {P : PD} {num : Nat → Nat} {a : Nat} : setP P 3 num 2 (num 0) a = num (a + 1) := upP_s (P := untold P (num 0)) (a := 2) (b := num 0) (z := a) (f := fun a => num (a + 1))
theorem set3_k {P : PD} {num : Nat → Nat} {w a : Nat} (q : w ≠ num 0) : setP P 3 num 2 w a = P 2 w a := upP_k (P := untold P (num 0)) (a := 2) (b := num 0) (x := 2) (z := a) (f := fun a => num (a + 1)) q
theorem set3_3 {P : PD} {num : Nat → Nat} {y z : Nat} : setP P 3 num 3 y z = untold P (num 0) 3 y z := rfl
theorem set3_4 {P : PD} {num : Nat → Nat} {y z : Nat} : setP P 3 num 4 y z = untold P (num 0) 4 y z ∧ setP P 3 num 5 y z = untold P (num 0) 5 y z := ⟨rfl, rfl⟩
theorem set4_s {P : PD} {num : Nat → Nat} {n : Nat} : setP P 4 num 3 (4 * num 0 + num 1) n = num (2 + n) := upP_s (P := P) (a := 3) (b := 4 * num 0 + num 1) (z := n) (f := fun n => num (2 + n))
theorem set4_k {P : PD} {num : Nat → Nat} {w a : Nat} (q : w ≠ 4 * num 0 + num 1) : setP P 4 num 3 w a = P 3 w a := upP_k (P := P) (a := 3) (b := 4 * num 0 + num 1) (x := 3) (z := a) (f := fun n => num (2 + n)) q
theorem set5_s {P : PD} {num : Nat → Nat} {z : Nat} : setP P 5 num 4 (num 1) z = num 0 + 1 ∧ setP P 5 num 5 (num 1) z = num 2 := ⟨upP_s (P := P) (a := 4) (b := num 1) (z := z) (f := fun _ => num 0 + 1), upP_s (P := upP P 4 (num 1) (fun _ => num 0 + 1)) (a := 5) (b := num 1) (z := z) (f := fun _ => num 2)⟩
theorem set5_k {P : PD} {num : Nat → Nat} {w z : Nat} (q : w ≠ num 1) : setP P 5 num 4 w z = P 4 w z ∧ setP P 5 num 5 w z = P 5 w z := ⟨upP_k (P := P) (a := 4) (b := num 1) (x := 4) (z := z) (f := fun _ => num 0 + 1) q, upP_k (P := upP P 4 (num 1) (fun _ => num 0 + 1)) (a := 5) (b := num 1) (x := 5) (z := z) (f := fun _ => num 2) q⟩
theorem set6_s {P : PD} {num : Nat → Nat} {a : Nat} : setP P 6 num 6 (num 0) a = num (a + 1) := upP_s (P := P) (a := 6) (b := num 0) (z := a) (f := fun a => num (a + 1))
theorem set6_k {P : PD} {num : Nat → Nat} {w a : Nat} (q : w ≠ num 0) : setP P 6 num 6 w a = P 6 w a := upP_k (P := P) (a := 6) (b := num 0) (x := 6) (z := a) (f := fun a => num (a + 1)) q
theorem setW_3 {S : PS} {num : Nat → Nat} {t w : Nat} (hw : w < 4) : setW S 3 num (4 * t + w) = if t = num 0 then 0 else S.2.2.2 (4 * t + w) := by
  unfold setW
  by_cases q : t = num 0
  · rw [if_pos q, if_pos ⟨rfl, by omega⟩]
  · rw [if_neg q, if_neg (fun z => q (by omega)), if_neg (fun z => absurd z.1 (by decide))]
theorem setW_4 {S : PS} {num : Nat → Nat} {j : Nat} : setW S 4 num j = if j = 4 * num 0 + num 1 then 1 else S.2.2.2 j := by
  unfold setW
  rw [if_neg (fun z => absurd z.1 (by decide))]
  by_cases q : j = 4 * num 0 + num 1
  · rw [if_pos q, if_pos ⟨rfl, q⟩]
  · rw [if_neg q, if_neg (fun z => q z.2)]
theorem Rp.win {h h' : PH} {d b : Nat} {T : Nat → Int32} {S : PS} {num : Nat → Nat} (a : Rp h d T S) (hO : OkS S b) (hm : num 0 = S.1 0 2 0) (hm4 : S.1 0 2 0 < 4) (nm : NmX h T (2 * 6 + cntP S.1 2) (S.2.1 2 (cntP S.1 2))) (F : ∀ c k, c ≠ d → c ≠ d + 3 + num 0 → h'.1 c k = h.1 c k) (D : ∀ k, k ≠ 3 → h'.1 d k = h.1 d k) (v : h'.1 d 3 = nI (S.1 0 2 0 + 1)) (G : ∀ k, k ≠ num 0 → h'.2.1 (d + 1) k = h.2.1 (d + 1) k) (w0 : h'.2.1 (d + 1) (num 0) = lN (num 1)) (sg : ∀ a, a < 3 → h'.1 (d + 3 + num 0) a = nI (num (a + 2))) (r : h'.2.2 = h.2.2) : Rp h' d T (setS S 2 num) := by
  have p := a.1.1.b
  obtain ⟨⟨-, -, w4, t4, f6, -⟩, -⟩ := id hO.1
  obtain ⟨a1, ⟨⟨x0, x1, x2, x3, x4, x5⟩, a3, a4, a5, a6, a7, a8⟩, ⟨a9, a10⟩, a11, a12, a13⟩ := a
  refine ⟨⟨a1.1, by rw [r]; exact a1.2⟩, ⟨⟨(D 0 (by decide)).trans x0, (D 1 (by decide)).trans x1, (D 2 (by decide)).trans x2, v, (D 4 (by decide)).trans x4, (D 5 (by decide)).trans x5⟩, ?_, ?_, ?_, ?_, ?_, ?_⟩, ⟨(D 6 (by decide)).trans a9, (D 7 (by decide)).trans a10⟩, ?_, ?_, ?_⟩
  · intro w (hw : w < S.1 0 2 0 + 1)
    by_cases q : w = num 0
    · rw [q]
      exact w0.trans (congrArg lN (set2_s (a := 0)).symm)
    · exact (G w q).trans ((a3 w (by omega)).trans (congrArg lN (set2_k q).symm))
  · intro w (hw : w < S.1 0 2 0 + 1) k hk
    by_cases q : w = num 0
    · rw [q]
      exact (sg k hk).trans (congrArg nI (set2_s (a := k + 1)).symm)
    · exact (F _ _ (by omega) (by omega)).trans ((a4 w (by omega) k hk).trans (congrArg nI (set2_k q).symm))
  · intro t (ht : t < S.1 0 3 0) k hk
    exact (F _ _ (by omega) (by omega)).trans (a5 t ht k hk)
  · intro t (ht : t < S.1 0 3 0) w hw k hk
    exact (F _ _ (by omega) (by omega)).trans (a6 t ht w hw k hk)
  · intro t (ht : t < S.1 0 3 0)
    exact ⟨(F _ _ (by omega) (by omega)).trans (a7 t ht).1, fun z => (F _ _ (by omega) (by omega)).trans ((a7 t ht).2 z)⟩
  · intro t (ht : t < S.1 0 4 0) k hk
    exact (F _ _ (by omega) (by omega)).trans (a8 t ht k hk)
  · intro t (ht : t < S.1 0 3 0) w hw
    exact (F _ _ (by omega) (by omega)).trans (a11 t ht w hw)
  · intro t (ht : t < S.1 0 3 0)
    exact ⟨(F _ _ (by omega) (by omega)).trans (a12 t ht).1, (F _ _ (by omega) (by omega)).trans (a12 t ht).2⟩
  · intro k hk i hi
    have e : cntP (setS S 2 num).1 k = if k = 2 then cntP S.1 k + 1 else cntP S.1 k := by rcases hk with rfl | rfl | rfl <;> rfl
    by_cases q : k = 2 ∧ i = cntP S.1 k
    · obtain ⟨rfl, q⟩ := q
      rw [q]
      exact nm.e (F _ _ (by omega) (by omega)) (F _ _ (by omega) (by omega))
    · have hi2 : i < cntP S.1 k := by
        rw [e] at hi
        by_cases z : k = 2
        · rw [if_pos z] at hi
          omega
        · rw [if_neg z] at hi
          exact hi
      exact (a13 k hk i hi2).e (F _ _ (by omega) (by omega)) (F _ _ (by omega) (by omega))
theorem Rp.thg {h h' : PH} {d b : Nat} {T : Nat → Int32} {S : PS} {num : Nat → Nat} (a : Rp h d T S) (hO : OkS S b) (hm : num 0 = S.1 0 3 0) (hm4 : S.1 0 3 0 < 4) (nm : NmX h T (3 * 6 + cntP S.1 3) (S.2.1 3 (cntP S.1 3))) (F : ∀ c k, c ≠ d → ¬ (d + 9 + 7 * num 0 ≤ c ∧ c ≤ d + 9 + 7 * num 0 + 6) → h'.1 c k = h.1 c k) (D : ∀ k, k ≠ 4 → h'.1 d k = h.1 d k) (v : h'.1 d 4 = nI (S.1 0 3 0 + 1)) (xs : ∀ a, a < 6 → h'.1 (d + 9 + 7 * num 0) a = nI (num (a + 1))) (v6 : h'.1 (d + 9 + 7 * num 0) 6 = -1) (v8 : h'.1 (d + 9 + 7 * num 0) 8 = nI 0) (v9 : h'.1 (d + 9 + 7 * num 0) 9 = nI 0) (vt : ∀ w, w < 4 → h'.1 (d + 9 + 7 * num 0 + 6) w = nI 0) (vw : ∀ w, w < 4 → ∀ n, n < 5 → h'.1 (d + 9 + 7 * num 0 + 2 + w) n = nI (if n = 0 then 10 else 0)) (r : h'.2 = h.2) : Rp h' d T (setS S 3 num) := by
  have p := a.1.1.b
  obtain ⟨⟨-, -, w4, t4, f6, -⟩, -⟩ := id hO.1
  obtain ⟨a1, ⟨⟨x0, x1, x2, x3, x4, x5⟩, a3, a4, a5, a6, a7, a8⟩, ⟨a9, a10⟩, a11, a12, a13⟩ := a
  refine ⟨⟨a1.1, by rw [r]; exact a1.2⟩, ⟨⟨(D 0 (by decide)).trans x0, (D 1 (by decide)).trans x1, (D 2 (by decide)).trans x2, (D 3 (by decide)).trans x3, v, (D 5 (by decide)).trans x5⟩, ?_, ?_, ?_, ?_, ?_, ?_⟩, ⟨(D 6 (by decide)).trans a9, (D 7 (by decide)).trans a10⟩, ?_, ?_, ?_⟩
  · intro w (hw : w < S.1 0 2 0)
    rw [r]
    exact a3 w hw
  · intro w (hw : w < S.1 0 2 0) k hk
    exact (F _ _ (by omega) (by omega)).trans (a4 w hw k hk)
  · intro t (ht : t < S.1 0 3 0 + 1) k hk
    by_cases q : t = num 0
    · rw [q]
      exact (xs k hk).trans (congrArg nI (set3_s (a := k)).symm)
    · exact (F _ _ (by omega) (by omega)).trans ((a5 t (by omega) k hk).trans (congrArg nI (set3_k q).symm))
  · intro t (ht : t < S.1 0 3 0 + 1) w hw k hk
    by_cases q : t = num 0
    · rw [q]
      exact (vw w hw k hk).trans (congrArg nI (untold_s (P := S.1) (by omega : (4 * num 0 + w) / 4 = num 0)).symm)
    · exact (F _ _ (by omega) (by omega)).trans ((a6 t (by omega) w hw k hk).trans (congrArg nI (untold_k (P := S.1) (by omega : (4 * t + w) / 4 ≠ num 0)).symm))
  · intro t (ht : t < S.1 0 3 0 + 1)
    by_cases q : t = num 0
    · rw [q]
      exact ⟨v6.trans (congrArg hlp (untold_0 (P := S.1) (t := num 0) (z := 0)).symm), fun z => absurd (untold_0 (P := S.1) (t := num 0) (z := 0)) z⟩
    · have u := untold_4 (P := S.1) (z := 0) q
      exact ⟨(F _ _ (by omega) (by omega)).trans ((a7 t (by omega)).1.trans (congrArg hlp u.1.symm)), fun z => (F _ _ (by omega) (by omega)).trans (((a7 t (by omega)).2 (fun y => z (u.1.trans y))).trans (congrArg nI u.2.symm))⟩
  · intro t (ht : t < S.1 0 4 0) k hk
    exact (F _ _ (by omega) (by omega)).trans (a8 t ht k hk)
  · intro t (ht : t < S.1 0 3 0 + 1) w hw
    show _ = nI (setW S 3 num (4 * t + w))
    rw [setW_3 hw]
    by_cases q : t = num 0
    · rw [if_pos q, q]
      exact vt w hw
    · rw [if_neg q]
      exact (F _ _ (by omega) (by omega)).trans (a11 t (by omega) w hw)
  · intro t (ht : t < S.1 0 3 0 + 1)
    by_cases q : t = num 0
    · rw [q]
      exact ⟨v8, v9⟩
    · exact ⟨(F _ _ (by omega) (by omega)).trans (a12 t (by omega)).1, (F _ _ (by omega) (by omega)).trans (a12 t (by omega)).2⟩
  · intro k hk i hi
    have e : cntP (setS S 3 num).1 k = if k = 3 then cntP S.1 k + 1 else cntP S.1 k := by rcases hk with rfl | rfl | rfl <;> rfl
    by_cases q : k = 3 ∧ i = cntP S.1 k
    · obtain ⟨rfl, q⟩ := q
      rw [q]
      exact nm.e (F _ _ (by omega) (by omega)) (F _ _ (by omega) (by omega))
    · have hi2 : i < cntP S.1 k := by
        rw [e] at hi
        by_cases z : k = 3
        · rw [if_pos z] at hi
          omega
        · rw [if_neg z] at hi
          exact hi
      exact (a13 k hk i hi2).e (F _ _ (by omega) (by omega)) (F _ _ (by omega) (by omega))
theorem Rp.wn4 {h h' : PH} {d b : Nat} {T : Nat → Int32} {S : PS} {num : Nat → Nat} (a : Rp h d T S) (hO : OkS S b) (hm : num 0 < S.1 0 3 0) (hw1 : num 1 < 4) (F : ∀ c k, c ≠ d + 9 + 7 * num 0 + 6 → c ≠ d + 9 + 7 * num 0 + 2 + num 1 → h'.1 c k = h.1 c k) (G : ∀ w, w ≠ num 1 → h'.1 (d + 9 + 7 * num 0 + 6) w = h.1 (d + 9 + 7 * num 0 + 6) w) (v : h'.1 (d + 9 + 7 * num 0 + 6) (num 1) = nI 1) (vw : ∀ n, n < 5 → h'.1 (d + 9 + 7 * num 0 + 2 + num 1) n = nI (num (2 + n))) (r : h'.2 = h.2) : Rp h' d T (setS S 4 num) := by
  have p := a.1.1.b
  obtain ⟨⟨-, -, w4, t4, f6, -⟩, -⟩ := id hO.1
  obtain ⟨a1, ⟨⟨x0, x1, x2, x3, x4, x5⟩, a3, a4, a5, a6, a7, a8⟩, ⟨a9, a10⟩, a11, a12, a13⟩ := a
  refine ⟨⟨a1.1, by rw [r]; exact a1.2⟩, ⟨⟨(F _ _ (by omega) (by omega)).trans x0, (F _ _ (by omega) (by omega)).trans x1, (F _ _ (by omega) (by omega)).trans x2, (F _ _ (by omega) (by omega)).trans x3, (F _ _ (by omega) (by omega)).trans x4, (F _ _ (by omega) (by omega)).trans x5⟩, ?_, ?_, ?_, ?_, ?_, ?_⟩, ⟨(F _ _ (by omega) (by omega)).trans a9, (F _ _ (by omega) (by omega)).trans a10⟩, ?_, ?_, ?_⟩
  · intro w (hw : w < S.1 0 2 0)
    rw [r]
    exact a3 w hw
  · intro w (hw : w < S.1 0 2 0) k hk
    exact (F _ _ (by omega) (by omega)).trans (a4 w hw k hk)
  · intro t (ht : t < S.1 0 3 0) k hk
    exact (F _ _ (by omega) (by omega)).trans (a5 t ht k hk)
  · intro t (ht : t < S.1 0 3 0) w hw k hk
    by_cases q : t = num 0 ∧ w = num 1
    · rw [q.1, q.2]
      exact (vw k hk).trans (congrArg nI (set4_s (n := k)).symm)
    · exact (F _ _ (by omega) (by omega)).trans ((a6 t ht w hw k hk).trans (congrArg nI (set4_k (by omega)).symm))
  · intro t (ht : t < S.1 0 3 0)
    exact ⟨(F _ _ (by omega) (by omega)).trans (a7 t ht).1, fun z => (F _ _ (by omega) (by omega)).trans ((a7 t ht).2 z)⟩
  · intro t (ht : t < S.1 0 4 0) k hk
    exact (F _ _ (by omega) (by omega)).trans (a8 t ht k hk)
  · intro t (ht : t < S.1 0 3 0) w hw
    show _ = nI (setW S 4 num (4 * t + w))
    rw [setW_4]
    by_cases q : t = num 0 ∧ w = num 1
    · rw [q.1, q.2, if_pos rfl]
      exact v
    · rw [if_neg (by omega)]
      by_cases z : t = num 0
      · rw [z]
        exact (G w (by omega)).trans (a11 _ hm w hw)
      · exact (F _ _ (by omega) (by omega)).trans (a11 t ht w hw)
  · intro t (ht : t < S.1 0 3 0)
    exact ⟨(F _ _ (by omega) (by omega)).trans (a12 t ht).1, (F _ _ (by omega) (by omega)).trans (a12 t ht).2⟩
  · intro k hk i hi
    have e : cntP (setS S 4 num).1 k = cntP S.1 k := by rcases hk with rfl | rfl | rfl <;> rfl
    rw [e] at hi
    exact (a13 k hk i hi).e (F _ _ (by omega) (by omega)) (F _ _ (by omega) (by omega))
theorem Rp.inst {h h' : PH} {d b : Nat} {T : Nat → Int32} {S : PS} {num : Nat → Nat} (a : Rp h d T S) (hO : OkS S b) (hm : num 1 < S.1 0 3 0) (F : ∀ c k, c ≠ d + 9 + 7 * num 1 → h'.1 c k = h.1 c k) (G : ∀ k, k ≠ 6 → k ≠ 7 → h'.1 (d + 9 + 7 * num 1) k = h.1 (d + 9 + 7 * num 1) k) (v6 : h'.1 (d + 9 + 7 * num 1) 6 = nI (num 0)) (v7 : h'.1 (d + 9 + 7 * num 1) 7 = nI (num 2)) (r : h'.2 = h.2) : Rp h' d T (setS S 5 num) := by
  have p := a.1.1.b
  obtain ⟨⟨-, -, w4, t4, f6, -⟩, -⟩ := id hO.1
  obtain ⟨a1, ⟨⟨x0, x1, x2, x3, x4, x5⟩, a3, a4, a5, a6, a7, a8⟩, ⟨a9, a10⟩, a11, a12, a13⟩ := a
  refine ⟨⟨a1.1, by rw [r]; exact a1.2⟩, ⟨⟨(F _ _ (by omega)).trans x0, (F _ _ (by omega)).trans x1, (F _ _ (by omega)).trans x2, (F _ _ (by omega)).trans x3, (F _ _ (by omega)).trans x4, (F _ _ (by omega)).trans x5⟩, ?_, ?_, ?_, ?_, ?_, ?_⟩, ⟨(F _ _ (by omega)).trans a9, (F _ _ (by omega)).trans a10⟩, ?_, ?_, ?_⟩
  · intro w (hw : w < S.1 0 2 0)
    rw [r]
    exact a3 w hw
  · intro w (hw : w < S.1 0 2 0) k hk
    exact (F _ _ (by omega)).trans (a4 w hw k hk)
  · intro t (ht : t < S.1 0 3 0) k hk
    by_cases q : t = num 1
    · rw [q]
      exact (G k (by omega) (by omega)).trans (a5 _ hm k hk)
    · exact (F _ _ (by omega)).trans (a5 t ht k hk)
  · intro t (ht : t < S.1 0 3 0) w hw k hk
    exact (F _ _ (by omega)).trans (a6 t ht w hw k hk)
  · intro t (ht : t < S.1 0 3 0)
    by_cases q : t = num 1
    · rw [q]
      have u := set5_s (P := S.1) (num := num) (z := 0)
      exact ⟨v6.trans (congrArg hlp u.1.symm), fun _ => v7.trans (congrArg nI u.2.symm)⟩
    · have u := set5_k (P := S.1) (num := num) (z := 0) q
      exact ⟨(F _ _ (by omega)).trans ((a7 t ht).1.trans (congrArg hlp u.1.symm)), fun z => (F _ _ (by omega)).trans (((a7 t ht).2 (fun y => z (u.1.trans y))).trans (congrArg nI u.2.symm))⟩
  · intro t (ht : t < S.1 0 4 0) k hk
    exact (F _ _ (by omega)).trans (a8 t ht k hk)
  · intro t (ht : t < S.1 0 3 0) w hw
    exact (F _ _ (by omega)).trans (a11 t ht w hw)
  · intro t (ht : t < S.1 0 3 0)
    by_cases q : t = num 1
    · rw [q]
      exact ⟨(G 8 (by decide) (by decide)).trans (a12 _ hm).1, (G 9 (by decide) (by decide)).trans (a12 _ hm).2⟩
    · exact ⟨(F _ _ (by omega)).trans (a12 t ht).1, (F _ _ (by omega)).trans (a12 t ht).2⟩
  · intro k hk i hi
    have e : cntP (setS S 5 num).1 k = cntP S.1 k := by rcases hk with rfl | rfl | rfl <;> rfl
    rw [e] at hi
    exact (a13 k hk i hi).e (F _ _ (by omega)) (F _ _ (by omega))
theorem Rp.fmy {h h' : PH} {d b : Nat} {T : Nat → Int32} {S : PS} {num : Nat → Nat} (a : Rp h d T S) (hO : OkS S b) (hm : num 0 = S.1 0 4 0) (hm4 : S.1 0 4 0 < 6) (nm : NmX h T (6 * 6 + cntP S.1 6) (S.2.1 6 (cntP S.1 6))) (F : ∀ c k, c ≠ d → c ≠ d + 37 + num 0 → h'.1 c k = h.1 c k) (D : ∀ k, k ≠ 5 → h'.1 d k = h.1 d k) (v : h'.1 d 5 = nI (S.1 0 4 0 + 1)) (xs : ∀ a, a < 3 → h'.1 (d + 37 + num 0) a = nI (num (a + 1))) (r : h'.2 = h.2) : Rp h' d T (setS S 6 num) := by
  have p := a.1.1.b
  obtain ⟨⟨-, -, w4, t4, f6, -⟩, -⟩ := id hO.1
  obtain ⟨a1, ⟨⟨x0, x1, x2, x3, x4, x5⟩, a3, a4, a5, a6, a7, a8⟩, ⟨a9, a10⟩, a11, a12, a13⟩ := a
  refine ⟨⟨a1.1, by rw [r]; exact a1.2⟩, ⟨⟨(D 0 (by decide)).trans x0, (D 1 (by decide)).trans x1, (D 2 (by decide)).trans x2, (D 3 (by decide)).trans x3, (D 4 (by decide)).trans x4, v⟩, ?_, ?_, ?_, ?_, ?_, ?_⟩, ⟨(D 6 (by decide)).trans a9, (D 7 (by decide)).trans a10⟩, ?_, ?_, ?_⟩
  · intro w (hw : w < S.1 0 2 0)
    rw [r]
    exact a3 w hw
  · intro w (hw : w < S.1 0 2 0) k hk
    exact (F _ _ (by omega) (by omega)).trans (a4 w hw k hk)
  · intro t (ht : t < S.1 0 3 0) k hk
    exact (F _ _ (by omega) (by omega)).trans (a5 t ht k hk)
  · intro t (ht : t < S.1 0 3 0) w hw k hk
    exact (F _ _ (by omega) (by omega)).trans (a6 t ht w hw k hk)
  · intro t (ht : t < S.1 0 3 0)
    exact ⟨(F _ _ (by omega) (by omega)).trans (a7 t ht).1, fun z => (F _ _ (by omega) (by omega)).trans ((a7 t ht).2 z)⟩
  · intro t (ht : t < S.1 0 4 0 + 1) k hk
    by_cases q : t = num 0
    · rw [q]
      exact (xs k hk).trans (congrArg nI (set6_s (a := k)).symm)
    · exact (F _ _ (by omega) (by omega)).trans ((a8 t (by omega) k hk).trans (congrArg nI (set6_k q).symm))
  · intro t (ht : t < S.1 0 3 0) w hw
    exact (F _ _ (by omega) (by omega)).trans (a11 t ht w hw)
  · intro t (ht : t < S.1 0 3 0)
    exact ⟨(F _ _ (by omega) (by omega)).trans (a12 t ht).1, (F _ _ (by omega) (by omega)).trans (a12 t ht).2⟩
  · intro k hk i hi
    have e : cntP (setS S 6 num).1 k = if k = 6 then cntP S.1 k + 1 else cntP S.1 k := by rcases hk with rfl | rfl | rfl <;> rfl
    by_cases q : k = 6 ∧ i = cntP S.1 k
    · obtain ⟨rfl, q⟩ := q
      rw [q]
      exact nm.e (F _ _ (by omega) (by omega)) (F _ _ (by omega) (by omega))
    · have hi2 : i < cntP S.1 k := by
        rw [e] at hi
        by_cases z : k = 6
        · rw [if_pos z] at hi
          omega
        · rw [if_neg z] at hi
          exact hi
      exact (a13 k hk i hi2).e (F _ _ (by omega) (by omega)) (F _ _ (by omega) (by omega))
