/-! ===== steps inside a clause ===== -/
theorem fOf_n {σ : SG} {K V k : Nat} (ek : σ.2.1 = k + 1) (hd : dueK k σ.2.2.1 = 3) : fOf σ K V = if K ≠ 3 then 1 else numF k σ.2.2.1 V σ.2.2.2 := by
  unfold fOf
  rw [if_neg (by omega), show σ.2.1 - 1 = k by omega, hd]
  by_cases q : K = 3
  · have e : ¬ K ≠ 3 := fun z => z q
    rw [if_neg e, if_neg e, if_pos q]
  · rw [if_pos q, if_pos q]
theorem fOf_w {σ : SG} {K V k : Nat} (ek : σ.2.1 = k + 1) (hd : dueK k σ.2.2.1 = 2) : fOf σ K V = if K ≠ 2 then 1 else nameF σ.1 k σ.2.2.1 V σ.2.2.2 := by
  unfold fOf
  rw [if_neg (by omega), show σ.2.1 - 1 = k by omega, hd]
  by_cases q : K = 2
  · have e : ¬ K ≠ 2 := fun z => z q
    rw [if_neg e, if_neg e, if_neg (show ¬ K = 3 by omega), if_pos q]
  · rw [if_pos q, if_pos q]
theorem fOf_s {σ : SG} {K V k : Nat} (ek : σ.2.1 = k + 1) (hd : dueK k σ.2.2.1 = 4) : fOf σ K V = if K ≠ 4 then 1 else 0 := by
  unfold fOf
  rw [if_neg (by omega), show σ.2.1 - 1 = k by omega, hd]
  by_cases q : K = 4
  · have e : ¬ K ≠ 4 := fun z => z q
    rw [if_neg e, if_neg e, if_neg (show ¬ K = 3 by omega), if_neg (show ¬ K = 2 by omega)]
  · rw [if_pos q, if_pos q]
theorem nxt_n {σ : SG} {V k : Nat} (ek : σ.2.1 = k + 1) : nxt σ 3 V = (σ.1, k + 1, σ.2.2.1 + 1, upN σ.2.2.2 σ.2.2.1 V) := by
  unfold nxt
  rw [if_neg (by omega), if_neg (by decide), if_pos rfl, ek]
theorem nxt_w {σ : SG} {V k : Nat} (ek : σ.2.1 = k + 1) : nxt σ 2 V = (nameS σ.1 k V, k + 1, σ.2.2.1 + 1, upN σ.2.2.2 σ.2.2.1 (nameI σ.1 k σ.2.2.1 V)) := by
  unfold nxt
  rw [if_neg (by omega), if_neg (by decide), if_neg (by decide), show σ.2.1 - 1 = k by omega, ek]
theorem nxt_s {σ : SG} {V k : Nat} (ek : σ.2.1 = k + 1) : nxt σ 4 V = (settl σ.1 k σ.2.2.2, 0, σ.2.2.1, σ.2.2.2) := by
  unfold nxt
  rw [if_neg (by omega), if_pos rfl, show σ.2.1 - 1 = k by omega]
