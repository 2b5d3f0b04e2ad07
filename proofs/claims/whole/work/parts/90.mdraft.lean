/-! ===== the model's draft ===== -/
/-- the model's draft tells S; of things not yet told nothing is wanted, and none does for them -/
def Md (h : PH) (S : PS) : Prop :=
  (∀ k, k < 5 → h.1 160 (5 + k) = nI (S.1 0 k 0)) ∧
  (∀ w, w < S.1 0 2 0 → ∀ a, a < 4 → h.1 164 (4 * (4 + w) + a) = nI (S.1 1 w a)) ∧
  (∀ t, t < S.1 0 3 0 → ∀ a, a < 6 → h.1 165 (6 * (4 + t) + a) = nI (S.1 2 t a)) ∧
  (∀ t, t < 4 → ∀ w, w < 4 → ∀ n, n < 5 → h.1 166 (80 + 5 * (4 * t + w) + n) = nI (if t < S.1 0 3 0 then S.1 3 (4 * t + w) n else if n = 0 then 10 else 0)) ∧
  (∀ t, t < 4 → ∀ w, w < 4 → h.1 167 (4 * t + w) = nI (if t < S.1 0 3 0 then S.2.2.2 (4 * t + w) else 0)) ∧
  (∀ t, t < 4 → h.1 168 (4 + t) = hlp (if t < S.1 0 3 0 then S.1 4 t 0 else 0)) ∧
  (∀ t, t < S.1 0 3 0 → S.1 4 t 0 ≠ 0 → h.1 169 (4 + t) = nI (S.1 5 t 0)) ∧
  (∀ f, f < S.1 0 4 0 → ∀ a, a < 3 → h.1 170 (3 * (6 + f) + a) = nI (S.1 6 f a)) ∧
  ((∀ i, i < S.1 0 2 0 → h.2.1 161 i = lN (S.2.1 2 i) ∧ S.2.1 2 i < 2 ^ 40) ∧ (∀ i, i < S.1 0 3 0 → h.2.1 162 i = lN (S.2.1 3 i) ∧ S.2.1 3 i < 2 ^ 40) ∧ (∀ i, i < S.1 0 4 0 → h.2.1 163 i = lN (S.2.1 6 i) ∧ S.2.1 6 i < 2 ^ 40)) ∧
  h.1 158 24 = nI (S.2.2.1 0 + 2 * S.2.2.1 1)
theorem Md_0 {h g : PH} (b : Bq 16 h g) : Md (sI (sI (sI (sI (sI g 168 (4 + 0) (-1)) 168 (4 + 1) (-1)) 168 (4 + 2) (-1)) 168 (4 + 3) (-1)) 158 24 (nI 0)) S00 := by
  obtain ⟨-, -, -, ⟨b5, b6, b7, b8, b9⟩, -, a6, a7⟩ := b
  have F : ∀ c k, c ≠ 158 → c ≠ 168 → (sI (sI (sI (sI (sI g 168 (4 + 0) (-1)) 168 (4 + 1) (-1)) 168 (4 + 2) (-1)) 168 (4 + 3) (-1)) 158 24 (nI 0)).1 c k = g.1 c k := fun c k z1 z2 => (rI_c z1).trans ((rI_c z2).trans ((rI_c z2).trans ((rI_c z2).trans (rI_c z2))))
  refine ⟨all5 ((F _ _ (by decide) (by decide)).trans b5) ((F _ _ (by decide) (by decide)).trans b6) ((F _ _ (by decide) (by decide)).trans b7) ((F _ _ (by decide) (by decide)).trans b8) ((F _ _ (by decide) (by decide)).trans b9), fun w hw => absurd hw (Nat.not_lt_zero w), fun w hw => absurd hw (Nat.not_lt_zero w), fun t ht w hw n hn => ?_, fun t ht w hw => ?_, ?_, fun w hw => absurd hw (Nat.not_lt_zero w), fun w hw => absurd hw (Nat.not_lt_zero w), ⟨fun w hw => absurd hw (Nat.not_lt_zero w), fun w hw => absurd hw (Nat.not_lt_zero w), fun w hw => absurd hw (Nat.not_lt_zero w)⟩, rI_s⟩
  · exact (F _ _ (by decide) (by decide)).trans (a6 (4 * t + w) (by omega) n hn)
  · exact (F _ _ (by decide) (by decide)).trans (a7 (4 * t + w) (by omega))
  · exact all4 ((rI_c (by decide)).trans ((rI_k (by decide)).trans ((rI_k (by decide)).trans ((rI_k (by decide)).trans rI_s)))) ((rI_c (by decide)).trans ((rI_k (by decide)).trans ((rI_k (by decide)).trans rI_s))) ((rI_c (by decide)).trans ((rI_k (by decide)).trans rI_s)) ((rI_c (by decide)).trans rI_s)
