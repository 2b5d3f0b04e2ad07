/-! more rules in Nat form, compares of longs, and the numbers of a week -/
section JX
variable {M M2 : MD} {R : Room} {sh0 : SH} {Z : ZT} {pc nx : Nat} {L : List (Option PV)} {st : List PV} {sh : SH} {h : PH}
theorem nI_min {a b : Nat} (ha : a < 2 ^ 31) (hb : b < 2 ^ 31) : (if nI b < nI a then nI b else nI a) = nI (min a b) := by
  by_cases q : b < a
  · rw [if_pos ((nI_ltI hb ha).mpr q), Nat.min_eq_right (by omega)]
  · rw [if_neg (fun z => q ((nI_ltI hb ha).mp z)), Nat.min_eq_left (by omega)]
theorem J_iincM {q : Nat} {n a : Nat} {L' : List (Option PV)} (hd : DI M pc (.iinc q (-(n : Int))) 3 nx) (hn : n ≤ a) (hx : L[q]? = some (some (pI (nI a)))) (hq : q < mnL M) (hL : st1 L q (pI (nI (a - n))) = L') (k : J M R sh0 Z nx L' st sh h) : J M R sh0 Z pc L st sh h := by
  refine J_iinc hd hx ?_ hq hL k
  have e : Int32.ofInt (-(n : Int)) = - nI n := by
    rw [Int32.ofInt_neg]
    rfl
  rw [e, ← pk_sub hn, Int32.sub_eq_add_neg]
theorem lcm_lt {x y : Int64} : lg_cmp x y < 0 ↔ x < y := by
  unfold lg_cmp
  by_cases a : x > y
  · rw [if_pos a]
    exact ⟨fun q => absurd q (by decide), fun q => absurd (Int64.lt_trans q a) (Int64.lt_irrefl)⟩
  · rw [if_neg a]
    by_cases b : x = y
    · rw [if_pos b]
      exact ⟨fun q => absurd q (by decide), fun q => absurd q (by rw [b]; exact Int64.lt_irrefl)⟩
    · rw [if_neg b]
      exact ⟨fun _ => Int64.lt_of_le_of_ne (Int64.not_lt.mp a) b, fun _ => by decide⟩
theorem lcm_gt {x y : Int64} : 0 < lg_cmp x y ↔ y < x := by
  unfold lg_cmp
  by_cases a : x > y
  · rw [if_pos a]
    exact ⟨fun _ => a, fun _ => by decide⟩
  · rw [if_neg a]
    by_cases b : x = y
    · rw [if_pos b]
      exact ⟨fun q => absurd q (by decide), fun q => absurd q a⟩
    · rw [if_neg b]
      exact ⟨fun q => absurd q (by decide), fun q => absurd q a⟩
theorem lcm_eq {x y : Int64} : lg_cmp x y = 0 ↔ x = y := by
  unfold lg_cmp
  by_cases a : x > y
  · rw [if_pos a]
    exact ⟨fun q => absurd q (by decide), fun q => absurd a (by rw [q]; exact Int64.lt_irrefl)⟩
  · rw [if_neg a]
    by_cases b : x = y
    · rw [if_pos b]
      exact ⟨fun _ => b, fun _ => rfl⟩
    · rw [if_neg b]
      exact ⟨fun q => absurd q (by decide), fun q => absurd q b⟩
theorem lcm_le {x y : Int64} : lg_cmp x y ≤ 0 ↔ x ≤ y := by
  rw [← Int32.not_lt, ← Int64.not_lt]
  exact not_congr lcm_gt
theorem lcm_ge {x y : Int64} : 0 ≤ lg_cmp x y ↔ y ≤ x := by
  rw [← Int32.not_lt, ← Int64.not_lt]
  exact not_congr lcm_lt
theorem J_lif_eq {x y : Int64} {tgt : Nat} (hd : DI M pc (.ifCond .eq ((tgt : Int) - (pc : Int))) 3 nx) (kt : x = y → J M R sh0 Z tgt L st sh h) (kf : ¬ x = y → J M R sh0 Z nx L st sh h) : J M R sh0 Z pc L (pI (lg_cmp x y) :: st) sh h := J_if_eq hd (fun q => kt (lcm_eq.mp q)) (fun q => kf (fun z => q (lcm_eq.mpr z)))
theorem J_lif_ne {x y : Int64} {tgt : Nat} (hd : DI M pc (.ifCond .ne ((tgt : Int) - (pc : Int))) 3 nx) (kt : ¬ x = y → J M R sh0 Z tgt L st sh h) (kf : x = y → J M R sh0 Z nx L st sh h) : J M R sh0 Z pc L (pI (lg_cmp x y) :: st) sh h := J_if_ne hd (fun q => kt (fun z => q (lcm_eq.mpr z))) (fun q => kf (lcm_eq.mp q))
theorem J_lif_lt {x y : Int64} {tgt : Nat} (hd : DI M pc (.ifCond .lt ((tgt : Int) - (pc : Int))) 3 nx) (kt : x < y → J M R sh0 Z tgt L st sh h) (kf : ¬ x < y → J M R sh0 Z nx L st sh h) : J M R sh0 Z pc L (pI (lg_cmp x y) :: st) sh h := J_if_lt hd (fun q => kt (lcm_lt.mp q)) (fun q => kf (fun z => q (lcm_lt.mpr z)))
theorem J_lif_ge {x y : Int64} {tgt : Nat} (hd : DI M pc (.ifCond .ge ((tgt : Int) - (pc : Int))) 3 nx) (kt : y ≤ x → J M R sh0 Z tgt L st sh h) (kf : ¬ y ≤ x → J M R sh0 Z nx L st sh h) : J M R sh0 Z pc L (pI (lg_cmp x y) :: st) sh h := J_if_ge hd (fun q => kt (lcm_ge.mp q)) (fun q => kf (fun z => q (lcm_ge.mpr z)))
theorem J_lif_gt {x y : Int64} {tgt : Nat} (hd : DI M pc (.ifCond .gt ((tgt : Int) - (pc : Int))) 3 nx) (kt : y < x → J M R sh0 Z tgt L st sh h) (kf : ¬ y < x → J M R sh0 Z nx L st sh h) : J M R sh0 Z pc L (pI (lg_cmp x y) :: st) sh h := J_if_gt hd (fun q => kt (lcm_gt.mp q)) (fun q => kf (fun z => q (lcm_gt.mpr z)))
theorem J_lif_le {x y : Int64} {tgt : Nat} (hd : DI M pc (.ifCond .le ((tgt : Int) - (pc : Int))) 3 nx) (kt : x ≤ y → J M R sh0 Z tgt L st sh h) (kf : ¬ x ≤ y → J M R sh0 Z nx L st sh h) : J M R sh0 Z pc L (pI (lg_cmp x y) :: st) sh h := J_if_le hd (fun q => kt (lcm_le.mp q)) (fun q => kf (fun z => q (lcm_le.mpr z)))
end JX
/-- what may go to wishes of a stock -/
def spN (rk rl x : Nat) : Nat := if rk = 1 then (if rl < x then x - rl else 0) else x
def wsN (rk rl s wa ne : Nat) : Nat := if rk = 2 ∧ s ≤ rl ∧ 0 < wa - min wa ne then wa - min wa ne - 1 else wa - min wa ne
def nmN (s wa ne : Nat) : Nat := min (min wa ne) s
def wmN (rk rl s wa ne : Nat) : Nat := min (wsN rk rl s wa ne) (spN rk rl (s - nmN s wa ne))
def gvN (rk rl s wa ne : Nat) : Nat := nmN s wa ne + wmN rk rl s wa ne
def lkN (s wa ne : Nat) : Nat := min wa ne - nmN s wa ne
def msN (rk rl s wa ne : Nat) : Nat := wsN rk rl s wa ne - wmN rk rl s wa ne
def rsN (rk rl s wa ne : Nat) : Nat := s - gvN rk rl s wa ne
theorem spN_le (rk rl x : Nat) : spN rk rl x ≤ x := by
  unfold spN
  split
  · split <;> omega
  · omega
theorem gv_le (rk rl s wa ne : Nat) : gvN rk rl s wa ne ≤ s := by
  have h := spN_le rk rl (s - nmN s wa ne)
  unfold gvN wmN
  unfold nmN at *
  omega
theorem nm_le (s wa ne : Nat) : nmN s wa ne ≤ s ∧ nmN s wa ne ≤ min wa ne := by
  unfold nmN
  omega
theorem wm_le (rk rl s wa ne : Nat) : wmN rk rl s wa ne ≤ wsN rk rl s wa ne := by
  unfold wmN
  omega
theorem ws_le (rk rl s wa ne : Nat) : wsN rk rl s wa ne ≤ wa := by
  unfold wsN
  split <;> omega
theorem gv_eq (rk rl s wa ne : Nat) : gvN rk rl s wa ne = nmN s wa ne + wmN rk rl s wa ne := rfl
def slN (so x : Nat) : Nat := if so < 2 then 0 else x / so
theorem sl_le (so x : Nat) : slN so x ≤ x := by
  unfold slN
  split
  · omega
  · exact Nat.div_le_self _ _
def IsWk (w : Nat) : Prop := w = 97 ∨ w = 101 ∨ w = 102 ∨ w = 126 ∨ w = 137 ∨ w = 147 ∨ w = 157
theorem IsWk.s {w : Nat} (h : IsWk w) : SHF[w]? = some (.inl 8) := by
  rcases h with rfl | rfl | rfl | rfl | rfl | rfl | rfl <;> rfl
theorem IsWk.lt {w : Nat} (h : IsWk w) : 97 ≤ w ∧ w ≤ 157 := by
  rcases h with rfl | rfl | rfl | rfl | rfl | rfl | rfl <;> decide
