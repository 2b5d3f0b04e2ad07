/-! ===== settled clauses: the model's draft ===== -/
theorem nmS_s {S : PS} {k V : Nat} (h : ¬ (k = 4 ∨ k = 5)) : (nameS S k V).2.1 k (cntP S.1 k) = V := by
  unfold nameS
  rw [if_neg h]
  exact if_pos ⟨rfl, rfl⟩
theorem nmS_k {S : PS} {k V i : Nat} (h : ¬ (k = 4 ∨ k = 5)) (q : i ≠ cntP S.1 k) : (nameS S k V).2.1 k i = S.2.1 k i := by
  unfold nameS
  rw [if_neg h]
  exact if_neg (fun y => q y.2)
theorem Md_win {h : PH} {S : PS} {num : Nat → Nat} {V : Nat} (a : Md h S) (hb : S.1 0 2 0 < 4) (h0 : num 0 = S.1 0 2 0) (hV : V < 2 ^ 40) : Md (sI (sI (sI (sI (sI (sL h 161 (S.1 0 2 0) (lN V)) 164 (4 * (4 + S.1 0 2 0) + 0) (nI (num 1))) 164 (4 * (4 + S.1 0 2 0) + 1) (nI (num 2))) 164 (4 * (4 + S.1 0 2 0) + 2) (nI (num 3))) 164 (4 * (4 + S.1 0 2 0) + 3) (nI (num 4))) 160 7 (nI (S.1 0 2 0 + 1))) (settl (nameS S 2 V) 2 num) := by
  obtain ⟨m0, m1, m2, m3, m4, m5, m6, m7, ⟨n2, n3, n6⟩, m9⟩ := a
  have F : ∀ c k, c ≠ 160 → c ≠ 164 → (sI (sI (sI (sI (sI (sL h 161 (S.1 0 2 0) (lN V)) 164 (4 * (4 + S.1 0 2 0) + 0) (nI (num 1))) 164 (4 * (4 + S.1 0 2 0) + 1) (nI (num 2))) 164 (4 * (4 + S.1 0 2 0) + 2) (nI (num 3))) 164 (4 * (4 + S.1 0 2 0) + 3) (nI (num 4))) 160 7 (nI (S.1 0 2 0 + 1))).1 c k = h.1 c k := fun c k z1 z2 => (rI_c z1).trans ((rI_c z2).trans ((rI_c z2).trans ((rI_c z2).trans ((rI_c z2)))))
  have H : ∀ k, k ≠ 7 → (sI (sI (sI (sI (sI (sL h 161 (S.1 0 2 0) (lN V)) 164 (4 * (4 + S.1 0 2 0) + 0) (nI (num 1))) 164 (4 * (4 + S.1 0 2 0) + 1) (nI (num 2))) 164 (4 * (4 + S.1 0 2 0) + 2) (nI (num 3))) 164 (4 * (4 + S.1 0 2 0) + 3) (nI (num 4))) 160 7 (nI (S.1 0 2 0 + 1))).1 160 k = h.1 160 k := fun k z => (rI_k z).trans ((rI_c (by decide)).trans ((rI_c (by decide)).trans ((rI_c (by decide)).trans ((rI_c (by decide))))))
  refine ⟨all5 ((H 5 (by decide)).trans (m0 0 (by decide))) ((H 6 (by decide)).trans (m0 1 (by decide))) (rI_s) ((H 8 (by decide)).trans (m0 3 (by decide))) ((H 9 (by decide)).trans (m0 4 (by decide))), ?_, fun t ht k hk => (F _ _ (by decide) (by decide)).trans (m2 t ht k hk), fun t ht w hw k hk => (F _ _ (by decide) (by decide)).trans (m3 t ht w hw k hk), fun t ht w hw => (F _ _ (by decide) (by decide)).trans (m4 t ht w hw), fun t ht => (F _ _ (by decide) (by decide)).trans (m5 t ht), fun t ht z => (F _ _ (by decide) (by decide)).trans (m6 t ht z), fun t ht k hk => (F _ _ (by decide) (by decide)).trans (m7 t ht k hk), ⟨?_, n3, n6⟩, (F _ _ (by decide) (by decide)).trans m9⟩
  · intro w (hw : w < S.1 0 2 0 + 1) k hk
    show _ = nI (setP S.1 2 num 1 w k)
    by_cases q : w = num 0
    · rw [q, set2_s, h0]
      refine (rI_c (by decide)).trans ?_
      have z : k = 0 ∨ k = 1 ∨ k = 2 ∨ k = 3 := by omega
      rcases z with rfl | rfl | rfl | rfl
      · exact (rI_k (by omega)).trans ((rI_k (by omega)).trans ((rI_k (by omega)).trans (rI_s)))
      · exact (rI_k (by omega)).trans ((rI_k (by omega)).trans (rI_s))
      · exact (rI_k (by omega)).trans (rI_s)
      · exact rI_s
    · rw [set2_k q]
      exact (rI_c (by decide)).trans ((rI_k (by omega)).trans ((rI_k (by omega)).trans ((rI_k (by omega)).trans ((rI_k (by omega)).trans (m1 w (by omega) k hk)))))
  · intro i (hi : i < S.1 0 2 0 + 1)
    show (sL h 161 (S.1 0 2 0) (lN V)).2.1 161 i = lN ((nameS S 2 V).2.1 2 i) ∧ (nameS S 2 V).2.1 2 i < 2 ^ 40
    by_cases q : i = S.1 0 2 0
    · subst q
      rw [show (nameS S 2 V).2.1 2 (S.1 0 2 0) = V from nmS_s (k := 2) (by decide)]
      exact ⟨rL_s, hV⟩
    · rw [nmS_k (k := 2) (by decide) q]
      exact ⟨(rL_k q).trans (n2 i (by omega)).1, (n2 i (by omega)).2⟩
theorem Md_thing {h : PH} {S : PS} {num : Nat → Nat} {V : Nat} (a : Md h S) (hb : S.1 0 3 0 < 4) (h0 : num 0 = S.1 0 3 0) (hV : V < 2 ^ 40) : Md (sI (sI (sI (sI (sI (sI (sI (sL h 162 (S.1 0 3 0) (lN V)) 165 (6 * (4 + S.1 0 3 0) + 0) (nI (num 1))) 165 (6 * (4 + S.1 0 3 0) + 1) (nI (num 2))) 165 (6 * (4 + S.1 0 3 0) + 2) (nI (num 3))) 165 (6 * (4 + S.1 0 3 0) + 3) (nI (num 4))) 165 (6 * (4 + S.1 0 3 0) + 4) (nI (num 5))) 165 (6 * (4 + S.1 0 3 0) + 5) (nI (num 6))) 160 8 (nI (S.1 0 3 0 + 1))) (settl (nameS S 3 V) 3 num) := by
  obtain ⟨m0, m1, m2, m3, m4, m5, m6, m7, ⟨n2, n3, n6⟩, m9⟩ := a
  have F : ∀ c k, c ≠ 160 → c ≠ 165 → (sI (sI (sI (sI (sI (sI (sI (sL h 162 (S.1 0 3 0) (lN V)) 165 (6 * (4 + S.1 0 3 0) + 0) (nI (num 1))) 165 (6 * (4 + S.1 0 3 0) + 1) (nI (num 2))) 165 (6 * (4 + S.1 0 3 0) + 2) (nI (num 3))) 165 (6 * (4 + S.1 0 3 0) + 3) (nI (num 4))) 165 (6 * (4 + S.1 0 3 0) + 4) (nI (num 5))) 165 (6 * (4 + S.1 0 3 0) + 5) (nI (num 6))) 160 8 (nI (S.1 0 3 0 + 1))).1 c k = h.1 c k := fun c k z1 z2 => (rI_c z1).trans ((rI_c z2).trans ((rI_c z2).trans ((rI_c z2).trans ((rI_c z2).trans ((rI_c z2).trans ((rI_c z2)))))))
  have H : ∀ k, k ≠ 8 → (sI (sI (sI (sI (sI (sI (sI (sL h 162 (S.1 0 3 0) (lN V)) 165 (6 * (4 + S.1 0 3 0) + 0) (nI (num 1))) 165 (6 * (4 + S.1 0 3 0) + 1) (nI (num 2))) 165 (6 * (4 + S.1 0 3 0) + 2) (nI (num 3))) 165 (6 * (4 + S.1 0 3 0) + 3) (nI (num 4))) 165 (6 * (4 + S.1 0 3 0) + 4) (nI (num 5))) 165 (6 * (4 + S.1 0 3 0) + 5) (nI (num 6))) 160 8 (nI (S.1 0 3 0 + 1))).1 160 k = h.1 160 k := fun k z => (rI_k z).trans ((rI_c (by decide)).trans ((rI_c (by decide)).trans ((rI_c (by decide)).trans ((rI_c (by decide)).trans ((rI_c (by decide)).trans ((rI_c (by decide))))))))
  refine ⟨all5 ((H 5 (by decide)).trans (m0 0 (by decide))) ((H 6 (by decide)).trans (m0 1 (by decide))) ((H 7 (by decide)).trans (m0 2 (by decide))) (rI_s) ((H 9 (by decide)).trans (m0 4 (by decide))), fun t ht k hk => (F _ _ (by decide) (by decide)).trans (m1 t ht k hk), ?_, ?_, ?_, ?_, ?_, fun t ht k hk => (F _ _ (by decide) (by decide)).trans (m7 t ht k hk), ⟨n2, ?_, n6⟩, (F _ _ (by decide) (by decide)).trans m9⟩
  · intro w (hw : w < S.1 0 3 0 + 1) k hk
    show _ = nI (setP S.1 3 num 2 w k)
    by_cases q : w = num 0
    · rw [q, set3_s, h0]
      refine (rI_c (by decide)).trans ?_
      have z : k = 0 ∨ k = 1 ∨ k = 2 ∨ k = 3 ∨ k = 4 ∨ k = 5 := by omega
      rcases z with rfl | rfl | rfl | rfl | rfl | rfl
      · exact (rI_k (by omega)).trans ((rI_k (by omega)).trans ((rI_k (by omega)).trans ((rI_k (by omega)).trans ((rI_k (by omega)).trans (rI_s)))))
      · exact (rI_k (by omega)).trans ((rI_k (by omega)).trans ((rI_k (by omega)).trans ((rI_k (by omega)).trans (rI_s))))
      · exact (rI_k (by omega)).trans ((rI_k (by omega)).trans ((rI_k (by omega)).trans (rI_s)))
      · exact (rI_k (by omega)).trans ((rI_k (by omega)).trans (rI_s))
      · exact (rI_k (by omega)).trans (rI_s)
      · exact rI_s
    · rw [set3_k q]
      exact (rI_c (by decide)).trans ((rI_k (by omega)).trans ((rI_k (by omega)).trans ((rI_k (by omega)).trans ((rI_k (by omega)).trans ((rI_k (by omega)).trans ((rI_k (by omega)).trans (m2 w (by omega) k hk)))))))
  · intro t ht w hw k hk
    show _ = nI (if t < S.1 0 3 0 + 1 then untold S.1 (num 0) 3 (4 * t + w) k else if k = 0 then 10 else 0)
    refine (F _ _ (by decide) (by decide)).trans ((m3 t ht w hw k hk).trans ?_)
    by_cases q : t < S.1 0 3 0
    · rw [if_pos q, if_pos (by omega), untold_k (by omega)]
    · rw [if_neg q]
      by_cases q2 : t < S.1 0 3 0 + 1
      · rw [if_pos q2, untold_s (by omega)]
      · rw [if_neg q2]
  · intro t ht w hw
    show _ = nI (if t < S.1 0 3 0 + 1 then setW (nameS S 3 V) 3 num (4 * t + w) else 0)
    refine (F _ _ (by decide) (by decide)).trans ((m4 t ht w hw).trans ?_)
    by_cases q : t < S.1 0 3 0
    · rw [if_pos q, if_pos (by omega)]
      congr 1
      unfold setW
      rw [if_neg (show ¬ (3 = 3 ∧ (4 * t + w) / 4 = num 0) by omega), if_neg (show ¬ (3 = 4 ∧ 4 * t + w = 4 * num 0 + num 1) from fun y => absurd y.1 (by decide))]
      rw [nm_S.2]
    · rw [if_neg q]
      by_cases q2 : t < S.1 0 3 0 + 1
      · rw [if_pos q2]
        unfold setW
        rw [if_pos (show 3 = 3 ∧ (4 * t + w) / 4 = num 0 by omega)]
      · rw [if_neg q2]
  · intro t ht
    show _ = hlp (if t < S.1 0 3 0 + 1 then untold S.1 (num 0) 4 t 0 else 0)
    refine (F _ _ (by decide) (by decide)).trans ((m5 t ht).trans ?_)
    by_cases q : t < S.1 0 3 0
    · rw [if_pos q, if_pos (by omega), (untold_4 (by omega)).1]
    · rw [if_neg q]
      by_cases q2 : t < S.1 0 3 0 + 1
      · rw [if_pos q2, show t = num 0 by omega, untold_0]
      · rw [if_neg q2]
  · intro t (ht : t < S.1 0 3 0 + 1) (z : untold S.1 (num 0) 4 t 0 ≠ 0)
    show _ = nI (untold S.1 (num 0) 5 t 0)
    by_cases q : t = num 0
    · rw [q, untold_0] at z
      exact absurd rfl z
    · rw [(untold_4 q).1] at z
      rw [(untold_4 q).2]
      exact (F _ _ (by decide) (by decide)).trans (m6 t (by omega) z)
  · intro i (hi : i < S.1 0 3 0 + 1)
    show (sL h 162 (S.1 0 3 0) (lN V)).2.1 162 i = lN ((nameS S 3 V).2.1 3 i) ∧ (nameS S 3 V).2.1 3 i < 2 ^ 40
    by_cases q : i = S.1 0 3 0
    · subst q
      rw [show (nameS S 3 V).2.1 3 (S.1 0 3 0) = V from nmS_s (k := 3) (by decide)]
      exact ⟨rL_s, hV⟩
    · rw [nmS_k (k := 3) (by decide) q]
      exact ⟨(rL_k q).trans (n3 i (by omega)).1, (n3 i (by omega)).2⟩
theorem Md_fam {h : PH} {S : PS} {num : Nat → Nat} {V : Nat} (a : Md h S) (hb : S.1 0 4 0 < 6) (h0 : num 0 = S.1 0 4 0) (hV : V < 2 ^ 40) : Md (sI (sI (sI (sI (sL h 163 (S.1 0 4 0) (lN V)) 170 (3 * (6 + S.1 0 4 0) + 0) (nI (num 1))) 170 (3 * (6 + S.1 0 4 0) + 1) (nI (num 2))) 170 (3 * (6 + S.1 0 4 0) + 2) (nI (num 3))) 160 9 (nI (S.1 0 4 0 + 1))) (settl (nameS S 6 V) 6 num) := by
  obtain ⟨m0, m1, m2, m3, m4, m5, m6, m7, ⟨n2, n3, n6⟩, m9⟩ := a
  have F : ∀ c k, c ≠ 160 → c ≠ 170 → (sI (sI (sI (sI (sL h 163 (S.1 0 4 0) (lN V)) 170 (3 * (6 + S.1 0 4 0) + 0) (nI (num 1))) 170 (3 * (6 + S.1 0 4 0) + 1) (nI (num 2))) 170 (3 * (6 + S.1 0 4 0) + 2) (nI (num 3))) 160 9 (nI (S.1 0 4 0 + 1))).1 c k = h.1 c k := fun c k z1 z2 => (rI_c z1).trans ((rI_c z2).trans ((rI_c z2).trans ((rI_c z2))))
  have H : ∀ k, k ≠ 9 → (sI (sI (sI (sI (sL h 163 (S.1 0 4 0) (lN V)) 170 (3 * (6 + S.1 0 4 0) + 0) (nI (num 1))) 170 (3 * (6 + S.1 0 4 0) + 1) (nI (num 2))) 170 (3 * (6 + S.1 0 4 0) + 2) (nI (num 3))) 160 9 (nI (S.1 0 4 0 + 1))).1 160 k = h.1 160 k := fun k z => (rI_k z).trans ((rI_c (by decide)).trans ((rI_c (by decide)).trans ((rI_c (by decide)))))
  refine ⟨all5 ((H 5 (by decide)).trans (m0 0 (by decide))) ((H 6 (by decide)).trans (m0 1 (by decide))) ((H 7 (by decide)).trans (m0 2 (by decide))) ((H 8 (by decide)).trans (m0 3 (by decide))) (rI_s), fun t ht k hk => (F _ _ (by decide) (by decide)).trans (m1 t ht k hk), fun t ht k hk => (F _ _ (by decide) (by decide)).trans (m2 t ht k hk), fun t ht w hw k hk => (F _ _ (by decide) (by decide)).trans (m3 t ht w hw k hk), fun t ht w hw => (F _ _ (by decide) (by decide)).trans (m4 t ht w hw), fun t ht => (F _ _ (by decide) (by decide)).trans (m5 t ht), fun t ht z => (F _ _ (by decide) (by decide)).trans (m6 t ht z), ?_, ⟨n2, n3, ?_⟩, (F _ _ (by decide) (by decide)).trans m9⟩
  · intro w (hw : w < S.1 0 4 0 + 1) k hk
    show _ = nI (setP S.1 6 num 6 w k)
    by_cases q : w = num 0
    · rw [q, set6_s, h0]
      refine (rI_c (by decide)).trans ?_
      have z : k = 0 ∨ k = 1 ∨ k = 2 := by omega
      rcases z with rfl | rfl | rfl
      · exact (rI_k (by omega)).trans ((rI_k (by omega)).trans (rI_s))
      · exact (rI_k (by omega)).trans (rI_s)
      · exact rI_s
    · rw [set6_k q]
      exact (rI_c (by decide)).trans ((rI_k (by omega)).trans ((rI_k (by omega)).trans ((rI_k (by omega)).trans (m7 w (by omega) k hk))))
  · intro i (hi : i < S.1 0 4 0 + 1)
    show (sL h 163 (S.1 0 4 0) (lN V)).2.1 163 i = lN ((nameS S 6 V).2.1 6 i) ∧ (nameS S 6 V).2.1 6 i < 2 ^ 40
    by_cases q : i = S.1 0 4 0
    · subst q
      rw [show (nameS S 6 V).2.1 6 (S.1 0 4 0) = V from nmS_s (k := 6) (by decide)]
      exact ⟨rL_s, hV⟩
    · rw [nmS_k (k := 6) (by decide) q]
      exact ⟨(rL_k q).trans (n6 i (by omega)).1, (n6 i (by omega)).2⟩
theorem Md_want {h : PH} {S : PS} {num : Nat → Nat} {x : Int32} (a : Md h S) (ht0 : num 0 < S.1 0 3 0) (hw0 : num 1 < 4) (h4 : S.1 0 3 0 ≤ 4) (hx : x = nI 1) : Md (sI (sI (sI (sI (sI (sI h 167 (4 * num 0 + num 1) x) 166 (80 + 5 * (4 * num 0 + num 1) + 0) (nI (num 2))) 166 (80 + 5 * (4 * num 0 + num 1) + 1) (nI (num 3))) 166 (80 + 5 * (4 * num 0 + num 1) + 2) (nI (num 4))) 166 (80 + 5 * (4 * num 0 + num 1) + 3) (nI (num 5))) 166 (80 + 5 * (4 * num 0 + num 1) + 4) (nI (num 6))) (settl S 4 num) := by
  obtain ⟨m0, m1, m2, m3, m4, m5, m6, m7, ⟨n2, n3, n6⟩, m9⟩ := a
  have F : ∀ c k, c ≠ 166 → c ≠ 167 → (sI (sI (sI (sI (sI (sI h 167 (4 * num 0 + num 1) x) 166 (80 + 5 * (4 * num 0 + num 1) + 0) (nI (num 2))) 166 (80 + 5 * (4 * num 0 + num 1) + 1) (nI (num 3))) 166 (80 + 5 * (4 * num 0 + num 1) + 2) (nI (num 4))) 166 (80 + 5 * (4 * num 0 + num 1) + 3) (nI (num 5))) 166 (80 + 5 * (4 * num 0 + num 1) + 4) (nI (num 6))).1 c k = h.1 c k := fun c k z1 z2 => (rI_c z1).trans ((rI_c z1).trans ((rI_c z1).trans ((rI_c z1).trans ((rI_c z1).trans ((rI_c z2))))))
  refine ⟨fun k hk => (F _ _ (by decide) (by decide)).trans ((m0 k hk).trans ?_), fun t ht k hk => (F _ _ (by decide) (by decide)).trans (m1 t ht k hk), fun t ht k hk => (F _ _ (by decide) (by decide)).trans (m2 t ht k hk), ?_, ?_, fun t ht => (F _ _ (by decide) (by decide)).trans (m5 t ht), fun t ht z => (F _ _ (by decide) (by decide)).trans (m6 t ht z), fun t ht k hk => (F _ _ (by decide) (by decide)).trans (m7 t ht k hk), ⟨n2, n3, n6⟩, (F _ _ (by decide) (by decide)).trans m9⟩
  · have z : k = 0 ∨ k = 1 ∨ k = 2 ∨ k = 3 ∨ k = 4 := by omega
    rcases z with rfl | rfl | rfl | rfl | rfl <;> rfl
  · intro t ht w hw k hk
    show _ = nI (if t < S.1 0 3 0 then setP S.1 4 num 3 (4 * t + w) k else if k = 0 then 10 else 0)
    by_cases q : 4 * t + w = 4 * num 0 + num 1
    · rw [if_pos (show t < S.1 0 3 0 by omega), q, set4_s]
      have z : k = 0 ∨ k = 1 ∨ k = 2 ∨ k = 3 ∨ k = 4 := by omega
      rcases z with rfl | rfl | rfl | rfl | rfl
      · exact (rI_k (by omega)).trans ((rI_k (by omega)).trans ((rI_k (by omega)).trans ((rI_k (by omega)).trans (rI_s))))
      · exact (rI_k (by omega)).trans ((rI_k (by omega)).trans ((rI_k (by omega)).trans (rI_s)))
      · exact (rI_k (by omega)).trans ((rI_k (by omega)).trans (rI_s))
      · exact (rI_k (by omega)).trans (rI_s)
      · exact rI_s
    · rw [set4_k q]
      exact (rI_k (by omega)).trans ((rI_k (by omega)).trans ((rI_k (by omega)).trans ((rI_k (by omega)).trans ((rI_k (by omega)).trans ((rI_c (by decide)).trans (m3 t ht w hw k hk))))))
  · intro t ht w hw
    show _ = nI (if t < S.1 0 3 0 then setW S 4 num (4 * t + w) else 0)
    refine (rI_c (by decide)).trans ((rI_c (by decide)).trans ((rI_c (by decide)).trans ((rI_c (by decide)).trans ((rI_c (by decide)).trans (?_)))))
    unfold setW
    rw [if_neg (show ¬ (4 = 3 ∧ (4 * t + w) / 4 = num 0) from fun y => absurd y.1 (by decide))]
    by_cases q : 4 * t + w = 4 * num 0 + num 1
    · rw [if_pos (show t < S.1 0 3 0 by omega), if_pos ⟨rfl, q⟩, q]
      exact rI_s.trans hx
    · rw [if_neg (show ¬ (4 = 4 ∧ 4 * t + w = 4 * num 0 + num 1) from fun y => q y.2)]
      exact (rI_k q).trans (m4 t ht w hw)
theorem Md_inst {h : PH} {S : PS} {num : Nat → Nat} (a : Md h S) (h1 : num 1 < S.1 0 3 0) (h4 : S.1 0 3 0 ≤ 4) : Md (sI (sI h 168 (4 + num 1) (nI (num 0))) 169 (4 + num 1) (nI (num 2))) (settl S 5 num) := by
  obtain ⟨m0, m1, m2, m3, m4, m5, m6, m7, ⟨n2, n3, n6⟩, m9⟩ := a
  have F : ∀ c k, c ≠ 169 → c ≠ 168 → (sI (sI h 168 (4 + num 1) (nI (num 0))) 169 (4 + num 1) (nI (num 2))).1 c k = h.1 c k := fun c k z1 z2 => (rI_c z1).trans (rI_c z2)
  refine ⟨fun k hk => (F _ _ (by decide) (by decide)).trans ((m0 k hk).trans ?_), fun t ht k hk => (F _ _ (by decide) (by decide)).trans (m1 t ht k hk), fun t ht k hk => (F _ _ (by decide) (by decide)).trans (m2 t ht k hk), fun t ht w hw k hk => (F _ _ (by decide) (by decide)).trans (m3 t ht w hw k hk), fun t ht w hw => (F _ _ (by decide) (by decide)).trans (m4 t ht w hw), ?_, ?_, fun t ht k hk => (F _ _ (by decide) (by decide)).trans (m7 t ht k hk), ⟨n2, n3, n6⟩, (F _ _ (by decide) (by decide)).trans m9⟩
  · have z : k = 0 ∨ k = 1 ∨ k = 2 ∨ k = 3 ∨ k = 4 := by omega
    rcases z with rfl | rfl | rfl | rfl | rfl <;> rfl
  · intro t ht
    show _ = hlp (if t < S.1 0 3 0 then setP S.1 5 num 4 t 0 else 0)
    refine (rI_c (by decide)).trans ?_
    by_cases q : t = num 1
    · rw [if_pos (show t < S.1 0 3 0 by omega), q, set5_s.1]
      exact rI_s
    · rw [(set5_k q).1]
      exact (rI_k (by omega)).trans (m5 t ht)
  · intro t (ht : t < S.1 0 3 0) (z : setP S.1 5 num 4 t 0 ≠ 0)
    show _ = nI (setP S.1 5 num 5 t 0)
    by_cases q : t = num 1
    · rw [q, set5_s.2]
      exact rI_s
    · rw [(set5_k q).1] at z
      rw [(set5_k q).2]
      exact (rI_k (by omega)).trans ((rI_c (by decide)).trans (m6 t ht z))
theorem Md_wks {h : PH} {S : PS} {num : Nat → Nat} {x : Int32} (a : Md h S) (hx : x = nI (1 + 2 * S.2.2.1 1)) : Md (sI (sI h 158 24 x) 160 5 (nI (num 0))) (settl S 0 num) := by
  obtain ⟨m0, m1, m2, m3, m4, m5, m6, m7, ⟨n2, n3, n6⟩, m9⟩ := a
  have F : ∀ c k, c ≠ 160 → c ≠ 158 → (sI (sI h 158 24 x) 160 5 (nI (num 0))).1 c k = h.1 c k := fun c k z1 z2 => (rI_c z1).trans (rI_c z2)
  have H : ∀ k, k ≠ 5 → (sI (sI h 158 24 x) 160 5 (nI (num 0))).1 160 k = h.1 160 k := fun k z => (rI_k z).trans (rI_c (by decide))
  exact ⟨all5 (rI_s) ((H 6 (by decide)).trans (m0 1 (by decide))) ((H 7 (by decide)).trans (m0 2 (by decide))) ((H 8 (by decide)).trans (m0 3 (by decide))) ((H 9 (by decide)).trans (m0 4 (by decide))), fun t ht k hk => (F _ _ (by decide) (by decide)).trans (m1 t ht k hk), fun t ht k hk => (F _ _ (by decide) (by decide)).trans (m2 t ht k hk), fun t ht w hw k hk => (F _ _ (by decide) (by decide)).trans (m3 t ht w hw k hk), fun t ht w hw => (F _ _ (by decide) (by decide)).trans (m4 t ht w hw), fun t ht => (F _ _ (by decide) (by decide)).trans (m5 t ht), fun t ht z => (F _ _ (by decide) (by decide)).trans (m6 t ht z), fun t ht k hk => (F _ _ (by decide) (by decide)).trans (m7 t ht k hk), ⟨n2, n3, n6⟩, (rI_c (by decide)).trans (rI_s.trans hx)⟩
theorem Md_css {h : PH} {S : PS} {num : Nat → Nat} {x : Int32} (a : Md h S) (hx : x = nI (S.2.2.1 0 + 2 * 1)) : Md (sI (sI h 158 24 x) 160 6 (nI (num 0))) (settl S 1 num) := by
  obtain ⟨m0, m1, m2, m3, m4, m5, m6, m7, ⟨n2, n3, n6⟩, m9⟩ := a
  have F : ∀ c k, c ≠ 160 → c ≠ 158 → (sI (sI h 158 24 x) 160 6 (nI (num 0))).1 c k = h.1 c k := fun c k z1 z2 => (rI_c z1).trans (rI_c z2)
  have H : ∀ k, k ≠ 6 → (sI (sI h 158 24 x) 160 6 (nI (num 0))).1 160 k = h.1 160 k := fun k z => (rI_k z).trans (rI_c (by decide))
  exact ⟨all5 ((H 5 (by decide)).trans (m0 0 (by decide))) (rI_s) ((H 7 (by decide)).trans (m0 2 (by decide))) ((H 8 (by decide)).trans (m0 3 (by decide))) ((H 9 (by decide)).trans (m0 4 (by decide))), fun t ht k hk => (F _ _ (by decide) (by decide)).trans (m1 t ht k hk), fun t ht k hk => (F _ _ (by decide) (by decide)).trans (m2 t ht k hk), fun t ht w hw k hk => (F _ _ (by decide) (by decide)).trans (m3 t ht w hw k hk), fun t ht w hw => (F _ _ (by decide) (by decide)).trans (m4 t ht w hw), fun t ht => (F _ _ (by decide) (by decide)).trans (m5 t ht), fun t ht z => (F _ _ (by decide) (by decide)).trans (m6 t ht z), fun t ht k hk => (F _ _ (by decide) (by decide)).trans (m7 t ht k hk), ⟨n2, n3, n6⟩, (rI_c (by decide)).trans (rI_s.trans hx)⟩
