/-! ===== a step keeps what is told right ===== -/
theorem OkS.mo {S : PS} {b b' : Nat} (a : OkS S b) (h : b ≤ b') (h9 : b' ≤ 900) : OkS S b' := by
  obtain ⟨⟨⟨x1, x2, x3, x4, x5, x6⟩, r⟩, -⟩ := a
  exact ⟨⟨⟨x1, x2, x3, x4, x5, by omega⟩, r⟩, h9⟩
theorem btw_z {S : PS} {K V : Nat} (hK : K ≠ 0) (h : btwF S K V = 0) : K = 2 ∧ kw V ≠ 0 ∧ kwFt S (kw V) = 0 := by
  unfold btwF at h
  rw [if_neg hK] at h
  by_cases q : K = 2
  · rw [if_pos q] at h
    exact ⟨q, fun z => by rw [z] at h; exact absurd h (by show ¬ (1 = 0); decide), h⟩
  · rw [if_neg q] at h
    exact absurd h (by decide)
theorem flg {S : PS} {k j : Nat} (h : S.2.2.1 j < 2) : (if (j = 0 ∧ k = 0) ∨ (j = 1 ∧ k = 1) then 1 else S.2.2.1 j) < 2 := by
  split <;> omega
theorem OkS.settl {S : PS} {b k : Nat} {num : Nat → Nat} (a : OkS S b) (h9 : b + 1 ≤ 900) (hk : k < 7) (hQ : ∀ i, i < lenS k → nOk S.1 k i num) (hm2 : k = 2 → S.1 0 2 0 < 4) (hm3 : k = 3 → S.1 0 3 0 < 4) (hm6 : k = 6 → S.1 0 4 0 < 6) : OkS (settl S k num) (b + 1) := by
  obtain ⟨⟨⟨x1, x2, x3, x4, x5, x6⟩, a2, a3, a4, a5, a6, g0, g1, g2⟩, -⟩ := a
  have hc : S.1 0 5 0 + 1 ≤ b + 1 := by omega
  have z : k = 0 ∨ k = 1 ∨ k = 2 ∨ k = 3 ∨ k = 4 ∨ k = 5 ∨ k = 6 := by omega
  rcases z with rfl | rfl | rfl | rfl | rfl | rfl | rfl
  · have q0 := (hQ 0 (by decide)).2.1 rfl
    exact ⟨⟨⟨⟨q0.1, q0.2.1⟩, x2, x3, x4, x5, hc⟩, a2, a3, a4, a5, a6, flg (k := 0) g0, flg (k := 0) g1, g2⟩, h9⟩
  · have q0 := (hQ 0 (by decide)).2.1 rfl
    exact ⟨⟨⟨x1, q0.2.1, x3, x4, x5, hc⟩, a2, a3, a4, a5, a6, flg (k := 1) g0, flg (k := 1) g1, g2⟩, h9⟩
  · have hm : num 0 = S.1 0 2 0 := (hQ 0 (by decide)).2.2.1 (by decide) rfl
    have h4 := hm2 rfl
    have q1 : num 1 ≤ 10 := ((hQ 1 (by decide)).2.1 rfl).2.1
    have q4 : num 4 + (0 + num 2 + num 3) = 10 := ((hQ 4 (by decide)).2.1 rfl).2.2.2 (Or.inl ⟨rfl, rfl⟩)
    refine ⟨⟨⟨x1, x2, (show S.1 0 2 0 + 1 ≤ 4 by omega), x4, x5, hc⟩, ?_, a3, a4, a5, a6, flg (k := 2) g0, flg (k := 2) g1, g2⟩, h9⟩
    intro w (hw : w < S.1 0 2 0 + 1)
    show setP S.1 2 num 1 w 0 ≤ 10 ∧ setP S.1 2 num 1 w 1 + setP S.1 2 num 1 w 2 + setP S.1 2 num 1 w 3 = 10
    by_cases q : w = num 0
    · rw [q, set2_s, set2_s, set2_s, set2_s]
      exact ⟨q1, by show num 2 + num 3 + num 4 = 10; omega⟩
    · rw [set2_k q, set2_k q, set2_k q, set2_k q]
      exact a2 w (by omega)
  · have hm : num 0 = S.1 0 3 0 := (hQ 0 (by decide)).2.2.1 (by decide) rfl
    have h4 := hm3 rfl
    have q1 := (hQ 1 (by decide)).2.1 rfl
    have q2 := (hQ 2 (by decide)).2.1 rfl
    have q3 := (hQ 3 (by decide)).2.1 rfl
    have q4 := (hQ 4 (by decide)).2.1 rfl
    have q5 := (hQ 5 (by decide)).2.1 rfl
    have q6 := (hQ 6 (by decide)).2.1 rfl
    refine ⟨⟨⟨x1, x2, x3, (show S.1 0 3 0 + 1 ≤ 4 by omega), x5, hc⟩, a2, ?_, ?_, ?_, a6, flg (k := 3) g0, flg (k := 3) g1, ?_⟩, h9⟩
    · intro t (ht : t < S.1 0 3 0 + 1)
      show (1 ≤ setP S.1 3 num 2 t 0 ∧ setP S.1 3 num 2 t 0 ≤ 9) ∧ setP S.1 3 num 2 t 1 ≤ 99 ∧ setP S.1 3 num 2 t 2 ≤ 99 ∧ setP S.1 3 num 2 t 3 ≤ 500 ∧ setP S.1 3 num 2 t 4 ≤ 99 ∧ (setP S.1 3 num 2 t 5 ≤ 9 ∧ setP S.1 3 num 2 t 5 ≠ 1)
      by_cases q : t = num 0
      · rw [q, set3_s, set3_s, set3_s, set3_s, set3_s, set3_s]
        exact ⟨⟨q1.1, q1.2.1⟩, q2.2.1, q3.2.1, q4.2.1, q5.2.1, q6.2.1, q6.2.2.1 rfl rfl⟩
      · rw [set3_k q, set3_k q, set3_k q, set3_k q, set3_k q, set3_k q]
        exact a3 t (by omega)
    · intro t (ht : t < S.1 0 3 0 + 1) w hw
      show untold S.1 (num 0) 3 (4 * t + w) 0 + untold S.1 (num 0) 3 (4 * t + w) 1 + untold S.1 (num 0) 3 (4 * t + w) 2 + untold S.1 (num 0) 3 (4 * t + w) 3 = 10 ∧ untold S.1 (num 0) 3 (4 * t + w) 4 ≤ 3
      by_cases q : t = num 0
      · have e : (4 * t + w) / 4 = num 0 := by omega
        rw [untold_s e, untold_s e, untold_s e, untold_s e, untold_s e]
        decide
      · have e : (4 * t + w) / 4 ≠ num 0 := by omega
        rw [untold_k e, untold_k e, untold_k e, untold_k e, untold_k e]
        exact a4 t (by omega) w hw
    · intro t (ht : t < S.1 0 3 0 + 1)
      show untold S.1 (num 0) 4 t 0 ≤ S.1 0 3 0 + 1 ∧ (untold S.1 (num 0) 4 t 0 ≠ 0 → untold S.1 (num 0) 5 t 0 ≤ 100)
      by_cases q : t = num 0
      · rw [q, untold_0]
        exact ⟨Nat.zero_le _, fun z => absurd rfl z⟩
      · have u := untold_4 (P := S.1) (z := 0) q
        rw [u.1, u.2]
        have y := a5 t (by omega)
        exact ⟨by omega, y.2⟩
    · intro t (ht : t < S.1 0 3 0 + 1) w hw
      show setW S 3 num (4 * t + w) < 2
      rw [setW_3 hw]
      by_cases q : t = num 0
      · rw [if_pos q]
        decide
      · rw [if_neg q]
        exact g2 t (by omega) w hw
  · have q5 : num 5 + (0 + num 2 + num 3 + num 4) = 10 := ((hQ 5 (by decide)).2.1 rfl).2.2.2 (Or.inr ⟨rfl, rfl⟩)
    have q6 : num 6 ≤ 3 := ((hQ 6 (by decide)).2.1 rfl).2.1
    refine ⟨⟨⟨x1, x2, x3, x4, x5, hc⟩, a2, a3, ?_, a5, a6, flg (k := 4) g0, flg (k := 4) g1, ?_⟩, h9⟩
    · intro t (ht : t < S.1 0 3 0) w hw
      show setP S.1 4 num 3 (4 * t + w) 0 + setP S.1 4 num 3 (4 * t + w) 1 + setP S.1 4 num 3 (4 * t + w) 2 + setP S.1 4 num 3 (4 * t + w) 3 = 10 ∧ setP S.1 4 num 3 (4 * t + w) 4 ≤ 3
      by_cases q : 4 * t + w = 4 * num 0 + num 1
      · rw [q, set4_s, set4_s, set4_s, set4_s, set4_s]
        exact ⟨by show num 2 + num 3 + num 4 + num 5 = 10; omega, q6⟩
      · rw [set4_k q, set4_k q, set4_k q, set4_k q, set4_k q]
        exact a4 t ht w hw
    · intro t (ht : t < S.1 0 3 0) w hw
      show setW S 4 num (4 * t + w) < 2
      rw [setW_4]
      split
      · decide
      · exact g2 t ht w hw
  · have m0 : num 0 < S.1 0 3 0 := (hQ 0 (by decide)).2.2.2.1 (by decide) rfl
    have q2 : num 2 ≤ 100 := ((hQ 2 (by decide)).2.1 rfl).2.1
    refine ⟨⟨⟨x1, x2, x3, x4, x5, hc⟩, a2, a3, a4, ?_, a6, flg (k := 5) g0, flg (k := 5) g1, g2⟩, h9⟩
    intro t (ht : t < S.1 0 3 0)
    show setP S.1 5 num 4 t 0 ≤ S.1 0 3 0 ∧ (setP S.1 5 num 4 t 0 ≠ 0 → setP S.1 5 num 5 t 0 ≤ 100)
    by_cases q : t = num 1
    · have u := set5_s (P := S.1) (num := num) (z := 0)
      rw [q, u.1, u.2]
      exact ⟨m0, fun _ => q2⟩
    · have u := set5_k (P := S.1) (num := num) (z := 0) q
      rw [u.1, u.2]
      exact a5 t ht
  · have hm : num 0 = S.1 0 4 0 := (hQ 0 (by decide)).2.2.1 (by decide) rfl
    have h4 := hm6 rfl
    have q1 := (hQ 1 (by decide)).2.1 rfl
    have q2 := (hQ 2 (by decide)).2.1 rfl
    have q3 := (hQ 3 (by decide)).2.1 rfl
    refine ⟨⟨⟨x1, x2, x3, x4, (show S.1 0 4 0 + 1 ≤ 6 by omega), hc⟩, a2, a3, a4, a5, ?_, flg (k := 6) g0, flg (k := 6) g1, g2⟩, h9⟩
    intro f (hf : f < S.1 0 4 0 + 1)
    show setP S.1 6 num 6 f 0 ≤ 10 ∧ (1 ≤ setP S.1 6 num 6 f 1 ∧ setP S.1 6 num 6 f 1 ≤ 500) ∧ setP S.1 6 num 6 f 2 ≤ 500
    by_cases q : f = num 0
    · rw [q, set6_s, set6_s, set6_s]
      exact ⟨q1.2.1, ⟨q2.1, q2.2.1⟩, q3.2.1⟩
    · rw [set6_k q, set6_k q, set6_k q]
      exact a6 f (by omega)
theorem upN_s {f : Nat → Nat} {i v : Nat} : upN f i v i = v := if_pos rfl
theorem upN_k {f : Nat → Nat} {i v j : Nat} (h : j ≠ i) : upN f i v j = f j := if_neg h
theorem cs_up {num : Nat → Nat} {c V i : Nat} (h : i ≤ c) : csN (upN num c V) i = csN num i := sm_cg _ (fun j hj => upN_k (by omega))
theorem nOk_up {P : PD} {k i c V : Nat} {num : Nat → Nat} (h : i < c) (a : nOk P k i num) : nOk P k i (upN num c V) := by
  obtain ⟨a1, a2, a3, a4, a5, a6⟩ := a
  have e : upN num c V i = num i := upN_k (by omega)
  refine ⟨by rw [e]; exact a1, fun z => by rw [e, cs_up (by omega)]; exact a2 z, fun z y => ?_, fun z y => ?_, fun z y => ?_, fun z y => ?_⟩
  · rw [upN_k (by omega)]
    exact a3 z y
  · rw [upN_k (by omega)]
    exact a4 z y
  · rw [upN_k (by omega)]
    exact a5 z y
  · rw [upN_k (by omega)]
    exact a6 z y
theorem numF_z {k c V : Nat} {num : Nat → Nat} (h : numF k c V num = 0) : loK k c ≤ V ∧ V ≤ hiK k c ∧ (k = 3 → c = 6 → V ≠ 1) ∧ (lcK k c → V + csN num c = 10) := by
  unfold numF at h
  by_cases q1 : V < loK k c ∨ hiK k c < V
  · rw [if_pos q1] at h
    exact absurd h (by decide)
  · rw [if_neg q1] at h
    by_cases q2 : k = 3 ∧ c = 6 ∧ V = 1
    · rw [if_pos q2] at h
      exact absurd h (by decide)
    · rw [if_neg q2] at h
      by_cases q3 : lcK k c ∧ V + csN num c ≠ 10
      · rw [if_pos q3] at h
        exact absurd h (by decide)
      · exact ⟨by omega, by omega, fun y1 y2 y3 => q2 ⟨y1, y2, y3⟩, fun y => Classical.byContradiction (fun x => q3 ⟨y, x⟩)⟩
theorem nm_S {S : PS} {k V : Nat} : (nameS S k V).1 = S.1 ∧ (nameS S k V).2.2 = S.2.2 := by
  unfold nameS
  split <;> exact ⟨rfl, rfl⟩
/-- what a fault's lack tells inside a clause -/
theorem fOf_in {σ : SG} {K V k : Nat} (ek : σ.2.1 = k + 1) (h : fOf σ K V = 0) : K = dueK k σ.2.2.1 ∧ (K = 3 → numF k σ.2.2.1 V σ.2.2.2 = 0) ∧ (K = 2 → nameF σ.1 k σ.2.2.1 V σ.2.2.2 = 0) := by
  unfold fOf at h
  rw [if_neg (by omega), show σ.2.1 - 1 = k by omega] at h
  by_cases q : K = dueK k σ.2.2.1
  · rw [if_neg (fun z => z q)] at h
    refine ⟨q, fun y => ?_, fun y => ?_⟩
    · rw [if_pos y] at h
      exact h
    · rw [if_neg (by omega), if_pos y] at h
      exact h
  · rw [if_pos q] at h
    exact absurd h (by decide)
theorem OkG.st {σ : SG} {K V b : Nat} (a : OkG σ b) (h9 : b + 1 ≤ 900) (h0 : K ≠ 0) (hK : K < 5) (h : fOf σ K V = 0) : OkG (nxt σ K V) (b + 1) := by
  obtain ⟨a1, a2, a3⟩ := a
  by_cases q : σ.2.1 = 0
  · have h2 : btwF σ.1 K V = 0 := by
      unfold fOf at h
      rw [if_pos q] at h
      exact h
    obtain ⟨-, z2, z3⟩ := btw_z h0 h2
    have e : nxt σ K V = (σ.1, kw V, 0, σ.2.2.2) := if_pos q
    rw [e]
    refine ⟨a1.mo (by omega) h9, kw_le, fun k (ek : kw V = k + 1) => ⟨Nat.zero_le _, fun y => ?_, fun y => ?_, fun y => ?_, fun i hi => absurd hi (Nat.not_lt_zero i)⟩⟩
    · rw [ek, y, kwFt_3] at z3
      by_cases x : σ.1.1 0 2 0 < 4
      · exact x
      · rw [if_neg x] at z3
        exact absurd z3 (by decide)
    · rw [ek, y, kwFt_4] at z3
      by_cases x : σ.1.1 0 3 0 < 4
      · exact x
      · rw [if_neg x] at z3
        exact absurd z3 (by decide)
    · rw [ek, y, kwFt_7] at z3
      by_cases x : σ.1.1 0 4 0 < 6
      · exact x
      · rw [if_neg x] at z3
        exact absurd z3 (by decide)
  · obtain ⟨k, ek⟩ : ∃ k, σ.2.1 = k + 1 := ⟨σ.2.1 - 1, by omega⟩
    have hk : k < 7 := by omega
    have hl := lenS_b k hk
    obtain ⟨b1, b2, b3, b4, b5⟩ := a3 k ek
    obtain ⟨c1, c2, c3⟩ := fOf_in ek h
    have d4 := due_4 k hk σ.2.2.1 (by omega)
    have ek1 : σ.2.1 - 1 = k := by omega
    by_cases q4 : K = 4
    · have hc : lenS k = σ.2.2.1 := by omega
      show OkG (if _ then _ else _) _
      rw [if_neg q, if_pos q4, ek1]
      exact ⟨a1.settl h9 hk (fun i hi => b5 i (by omega)) b2 b3 b4, Nat.zero_le _, fun j ej => absurd ej.symm (Nat.succ_ne_zero j)⟩
    · have hc : σ.2.2.1 < lenS k := by omega
      by_cases q3 : K = 3
      · obtain ⟨n1, n2, n3, n4⟩ := numF_z (c2 q3)
        have hh := hiK_b (c := σ.2.2.1) hk (due_3 k hk σ.2.2.1 (by omega) (by omega))
        show OkG (if _ then _ else _) _
        rw [if_neg q, if_neg q4, if_pos q3]
        refine ⟨a1.mo (by omega) h9, a2, fun j (ej : σ.2.1 = j + 1) => ?_⟩
        have ej1 : j = k := by omega
        subst ej1
        refine ⟨hc, b2, b3, b4, fun i (hi : i < σ.2.2.1 + 1) => ?_⟩
        by_cases y : i = σ.2.2.1
        · rw [y]
          show nOk σ.1.1 j σ.2.2.1 (upN σ.2.2.2 σ.2.2.1 V)
          have d2 := due_2 j hk σ.2.2.1 (by omega)
          refine ⟨by rw [upN_s]; omega, fun _ => by rw [upN_s, cs_up (Nat.le_refl _)]; exact ⟨n1, n2, n3, n4⟩, fun z1 z2 => ?_, fun z1 z2 => ?_, fun z1 z2 => ?_, fun z1 z2 => ?_⟩
          · exfalso
            rw [z2] at c1
            rcases z1 with rfl | rfl | rfl <;> exact absurd (q3.symm.trans c1) (by decide)
          · exfalso
            rw [z2] at c1
            rcases z1 with rfl | rfl <;> exact absurd (q3.symm.trans c1) (by decide)
          · exfalso
            rw [z2, z1] at c1
            exact absurd (q3.symm.trans c1) (by decide)
          · exfalso
            rw [z2, z1] at c1
            exact absurd (q3.symm.trans c1) (by decide)
        · exact nOk_up (by omega) (b5 i (by omega))
      · have hd := due_b k hk σ.2.2.1 (by omega)
        have d01 : ∀ k, k < 7 → ∀ c, c < 8 → dueK k c = 2 ∨ dueK k c = 3 ∨ dueK k c = 4 := by decide
        have q2 : K = 2 := by
          have := d01 k hk σ.2.2.1 (by omega)
          omega
        have d2 := due_2 k hk σ.2.2.1 (by omega) (by omega)
        have hz := nameF_z d2.2 (c3 q2)
        have f2 := fdN_le (g := σ.1.2.1 2) (V := V) (σ.1.1 0 2 0)
        have f3 := fdN_le (g := σ.1.2.1 3) (V := V) (σ.1.1 0 3 0)
        have hcb := cnt_b (k := k) a1
        obtain ⟨⟨-, -, w4, t4, f6, -⟩, -⟩ := id a1.1
        show OkG (if _ then _ else _) _
        rw [if_neg q, if_neg q4, if_neg q3, ek1]
        have nS := nm_S (S := σ.1) (k := k) (V := V)
        have oS : OkS (nameS σ.1 k V) (b + 1) := by
          have z := a1.mo (b' := b + 1) (by omega) h9
          unfold OkS at z ⊢
          rw [nS.1, nS.2]
          exact z
        refine ⟨oS, a2, fun j (ej : σ.2.1 = j + 1) => ?_⟩
        have ej1 : j = k := by omega
        subst ej1
        show σ.2.2.1 + 1 ≤ lenS j ∧ (j = 2 → (nameS σ.1 j V).1 0 2 0 < 4) ∧ (j = 3 → (nameS σ.1 j V).1 0 3 0 < 4) ∧ (j = 6 → (nameS σ.1 j V).1 0 4 0 < 6) ∧ ∀ i, i < σ.2.2.1 + 1 → nOk (nameS σ.1 j V).1 j i (upN σ.2.2.2 σ.2.2.1 (nameI σ.1 j σ.2.2.1 V))
        rw [nS.1]
        refine ⟨hc, b2, b3, b4, fun i hi => ?_⟩
        by_cases y : i = σ.2.2.1
        · subst y
          have nb : nameI σ.1 j σ.2.2.1 V ≤ 6 := by
            unfold nameI
            (repeat' split) <;> omega
          refine ⟨by rw [upN_s]; omega, fun z => absurd z (by omega), fun z1 z2 => ?_, fun z1 z2 => ?_, fun z1 z2 => ?_, fun z1 z2 => ?_⟩
          · rw [z2, upN_s, nameI, if_neg (by omega), if_neg (by omega)]
          · rw [z2, upN_s, nameI, if_neg (by omega), if_pos z1]
            have := hz.2.1
            have := hz.2.2
            omega
          · rw [z2, upN_s, nameI, if_pos ⟨z1, rfl⟩]
            have := hz.1
            omega
          · rw [z2, upN_s, nameI, if_neg (by omega), if_pos (Or.inr z1)]
            have := hz.2.2
            omega
        · exact nOk_up (by omega) (b5 i (by omega))
