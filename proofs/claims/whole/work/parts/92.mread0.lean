/-! ===== the model reads on: words ===== -/
/-- the draft's cells, and the token's -/
def inD (c k : Nat) : Prop := c = 167 ∨ (c = 160 ∧ 5 ≤ k) ∨ (c = 164 ∧ 16 ≤ k) ∨ (c = 165 ∧ 24 ≤ k) ∨ (c = 166 ∧ 80 ≤ k) ∨ (c = 168 ∧ 4 ≤ k) ∨ (c = 169 ∧ 4 ≤ k) ∨ (c = 170 ∧ 18 ≤ k) ∨ (c = 158 ∧ ((3 ≤ k ∧ k ≤ 7) ∨ k = 11 ∨ k = 24))
/-- what reading leaves -/
def Mf (h h' : PH) : Prop := (∀ c k, ¬ inD c k → h'.1 c k = h.1 c k) ∧ (∀ c k, c ≠ 158 → c ≠ 161 → c ≠ 162 → c ≠ 163 → h'.2.1 c k = h.2.1 c k) ∧ h'.2.2 = h.2.2
theorem Mf.rf {h : PH} : Mf h h := ⟨fun _ _ _ => rfl, fun _ _ _ _ _ _ => rfl, rfl⟩
theorem Mf.tr {h h1 h2 : PH} (a : Mf h h1) (b : Mf h1 h2) : Mf h h2 := ⟨fun c k z => (b.1 c k z).trans (a.1 c k z), fun c k z1 z2 z3 z4 => (b.2.1 c k z1 z2 z3 z4).trans (a.2.1 c k z1 z2 z3 z4), b.2.2.trans a.2.2⟩
theorem rI_n {h : PH} {c k a j : Nat} {x : Int32} (z : a = c → j ≠ k) : (sI h c k x).1 a j = h.1 a j := by
  by_cases q : a = c
  · subst q
    exact rI_k (z rfl)
  · exact rI_c q
theorem Mf.s {h g : PH} {c k : Nat} {x : Int32} (a : Mf h g) (z : inD c k) : Mf h (sI g c k x) := ⟨fun a' k' z' => (rI_n (fun e1 e2 => z' (by rw [e1, e2]; exact z))).trans (a.1 a' k' z'), a.2.1, a.2.2⟩
theorem Mf.sl {h g : PH} {c k : Nat} {x : Int64} (a : Mf h g) (z : c = 161 ∨ c = 162 ∨ c = 163) : Mf h (sL g c k x) := ⟨a.1, fun c' k' z1 z2 z3 z4 => (rL_c (by omega)).trans (a.2.1 c' k' z1 z2 z3 z4), a.2.2⟩
theorem Mf.ms {h g g' : PH} (a : Mf h g) (b : Ms g g') : Mf h g' := ⟨fun c k z => by
  by_cases q : c = 158
  · subst q
    exact (b.2.2.1 k (by unfold inD at z; omega)).trans (a.1 158 k z)
  · exact (congrFun (b.1 c q).1 k).trans (a.1 c k z), fun c k z1 z2 z3 z4 => (congrFun (b.1 c z1).2 k).trans (a.2.1 c k z1 z2 z3 z4), b.2.1.trans a.2.2⟩
theorem Mf.mg {h g g' : PH} {V : Nat} (a : Mf h g) (b : Mg g g' V) : Mf h g' := ⟨fun c k z => by
  by_cases q : c = 158
  · subst q
    exact (b.2.2.1 k (by unfold inD at z; omega) (by unfold inD at z; omega)).trans (a.1 158 k z)
  · exact (congrFun (b.1 c q).1 k).trans (a.1 c k z), fun c k z1 z2 z3 z4 => (congrFun (b.1 c z1).2 k).trans (a.2.1 c k z1 z2 z3 z4), b.2.1.trans a.2.2⟩
theorem Mf.g {h g : PH} (a : Mf h g) (hG : GR h.2.2) : GR g.2.2 := by rw [a.2.2]; exact hG
theorem Mt.mf {h g : PH} {T : Nat → Int32} {n : Nat} (a : Mt h T n) (b : Mf h g) : Mt g T n := ⟨fun i hi => (b.1 159 i (by unfold inD; omega)).trans (a.1 i hi), (b.1 158 2 (by unfold inD; omega)).trans a.2.1, a.2.2⟩
theorem Mf.fr {h g : PH} (a : Mf h g) : Fr 158 186 h g := ⟨fun c hc => ⟨funext (fun k => a.1 c k (by unfold inD; omega)), funext (fun k => a.2.1 c k (by omega) (by omega) (by omega) (by omega))⟩, a.2.2⟩
/-- a draft's cells as those of another heap -/
def Sh (h d : PH) : Prop := (∀ c, c ≠ 158 → h.1 c = d.1 c ∧ h.2.1 c = d.2.1 c) ∧ h.1 158 24 = d.1 158 24
theorem Sh.rf {h : PH} : Sh h h := ⟨fun _ _ => ⟨rfl, rfl⟩, rfl⟩
theorem Sh.ms {h h' d : PH} (a : Sh h d) (b : Ms h h') : Sh h' d := ⟨fun c z => ⟨(b.1 c z).1.trans (a.1 c z).1, (b.1 c z).2.trans (a.1 c z).2⟩, (b.2.2.1 24 (by decide)).trans a.2⟩
theorem Sh.mg {h h' d : PH} {V : Nat} (a : Sh h d) (b : Mg h h' V) : Sh h' d := ⟨fun c z => ⟨(b.1 c z).1.trans (a.1 c z).1, (b.1 c z).2.trans (a.1 c z).2⟩, (b.2.2.1 24 (by decide) (by decide)).trans a.2⟩
theorem Sh.s {h d : PH} {c k : Nat} {x : Int32} (a : Sh h d) (z : c ≠ 158) : Sh (sI h c k x) (sI d c k x) := ⟨fun c' z' => ⟨by
  by_cases q : c' = c
  · subst q
    rw [rW_upd, rW_upd, (a.1 c' z').1]
  · rw [rW_c q, rW_c q]
    exact (a.1 c' z').1, (a.1 c' z').2⟩, (rI_c (fun e => z e.symm)).trans (a.2.trans (rI_c (fun e => z e.symm)).symm)⟩
theorem Sh.sl {h d : PH} {c k : Nat} {x : Int64} (a : Sh h d) (z : c ≠ 158) : Sh (sL h c k x) (sL d c k x) := ⟨fun c' z' => ⟨(a.1 c' z').1, by
  by_cases q : c' = c
  · subst q
    show (wL h c' (vp_updL (h.2.1 c') k x)).2.1 c' = (wL d c' (vp_updL (d.2.1 c') k x)).2.1 c'
    rw [rWL_s, rWL_s, (a.1 c' z').2]
  · rw [rWL_c q, rWL_c q]
    exact (a.1 c' z').2⟩, a.2⟩
theorem Md.sh {h d : PH} {S : PS} (a : Md d S) (b : Sh h d) : Md h S := by
  obtain ⟨m0, m1, m2, m3, m4, m5, m6, m7, ⟨n2, n3, n6⟩, m9⟩ := a
  have F : ∀ c k, c ≠ 158 → h.1 c k = d.1 c k := fun c k z => congrFun (b.1 c z).1 k
  have G : ∀ c k, c ≠ 158 → h.2.1 c k = d.2.1 c k := fun c k z => congrFun (b.1 c z).2 k
  exact ⟨fun k hk => (F _ _ (by decide)).trans (m0 k hk), fun w hw k hk => (F _ _ (by decide)).trans (m1 w hw k hk), fun w hw k hk => (F _ _ (by decide)).trans (m2 w hw k hk), fun t ht w hw k hk => (F _ _ (by decide)).trans (m3 t ht w hw k hk), fun t ht w hw => (F _ _ (by decide)).trans (m4 t ht w hw), fun t ht => (F _ _ (by decide)).trans (m5 t ht), fun t ht z => (F _ _ (by decide)).trans (m6 t ht z), fun w hw k hk => (F _ _ (by decide)).trans (m7 w hw k hk), ⟨fun i hi => ⟨(G _ _ (by decide)).trans (n2 i hi).1, (n2 i hi).2⟩, fun i hi => ⟨(G _ _ (by decide)).trans (n3 i hi).1, (n3 i hi).2⟩, fun i hi => ⟨(G _ _ (by decide)).trans (n6 i hi).1, (n6 i hi).2⟩⟩, b.2.trans m9⟩
/-- the model stands at a token of the run whose end is R -/
def At (R : (Nat × Nat) × PS) (h0 h : PH) (T : Nat → Int32) (n : Nat) (σ : SG) (p : Nat) : Prop := Mk h T n (rn cBl T n p) ∧ (Mt h T n ∧ p ≤ n) ∧ OkG σ p ∧ R = pRn T n σ p ∧ Mf h0 h
/-- the run ended in a fault -/
def Bad (R : (Nat × Nat) × PS) (h0 h' : PH) : Prop := R.1.1 ≠ 0 ∧ ∃ g, Mf h0 g ∧ h' = sI (sI g 158 8 (nI R.1.1)) 158 9 (nI R.1.2)
theorem At.bad {R : (Nat × Nat) × PS} {h0 h : PH} {T : Nat → Int32} {n p f : Nat} {σ : SG} (a : At R h0 h T n σ p) (e : fOf σ (tkK T n (rn cBl T n p)) (tkV T n (rn cBl T n p)) = f) (z : f ≠ 0) : Bad R h0 (sI (sI h 158 8 (nI f)) 158 9 (nI (rn cBl T n p))) := by
  subst e
  have q := a.2.2.2.1.trans (pRn_fail z)
  refine ⟨by rw [q]; exact z, h, a.2.2.2.2, ?_⟩
  rw [q]
theorem At.go {R : (Nat × Nat) × PS} {h0 h g : PH} {T : Nat → Int32} {n p : Nat} {σ : SG} (a : At R h0 h T n σ p) (e : fOf σ (tkK T n (rn cBl T n p)) (tkV T n (rn cBl T n p)) = 0) (hK : tkK T n (rn cBl T n p) ≠ 0) (hk : Mk g T n (rn cBl T n (tkE T n (rn cBl T n p)))) (hB : Mt g T n) (f : Mf h0 g) : At R h0 g T n (nxt σ (tkK T n (rn cBl T n p)) (tkV T n (rn cBl T n p))) (tkE T n (rn cBl T n p)) := by
  obtain ⟨-, ⟨b, hp⟩, hO, hR, -⟩ := a
  have hs : rn cBl T n p < n := by
    have := mt tkK_0.mpr hK
    omega
  have e1 := tkE_gt (T := T) hs
  have e2 := tkE_le (T := T) (Nat.le_of_lt hs)
  have e3 := rn_ge (c := cBl) (T := T) (n := n) (p := p)
  have e9 := b.2.2.1
  exact ⟨hk, ⟨hB, e2⟩, (hO.st (by omega) hK tkK_b e).mo (by omega) (by omega), hR.trans (pRn_go hp e hK), f⟩
theorem At.s {R : (Nat × Nat) × PS} {h0 h : PH} {T : Nat → Int32} {n p c k : Nat} {σ : SG} {x : Int32} (a : At R h0 h T n σ p) (z : inD c k) (z8 : c ≠ 158) : At R h0 (sI h c k x) T n σ p := by
  obtain ⟨⟨k1, k2, k3, k4, k5, k6⟩, ⟨⟨b1, b2, b3⟩, hp⟩, hO, hR, f⟩ := a
  have q : (158 : Nat) ≠ c := fun e => z8 e.symm
  exact ⟨⟨(rI_c q).trans k1, (rI_c q).trans k2, (rI_c q).trans k3, (rI_c q).trans k4, k5, fun y => (rI_c q).trans (k6 y)⟩, ⟨⟨fun i hi => (rI_c (by unfold inD at z; omega)).trans (b1 i hi), (rI_c q).trans b2, b3⟩, hp⟩, hO, hR, f.s z⟩
theorem tkV_40 {T : Nat → Int32} {n s : Nat} (h : tkK T n s = 2) : tkV T n s < 2 ^ 40 := by
  have e : tkV T n s = wvN T s (tkE T n s - s) := if_pos h
  have q := tk_let h
  have b := wv_b (T := T) (s := s) (tkE T n s - s) q.2.2
  have m : 32 ^ (tkE T n s - s) ≤ 32 ^ 8 := Nat.pow_le_pow_right (by decide) q.2.1
  rw [e]
  have z : (32 : Nat) ^ 8 = 2 ^ 40 := by decide
  omega
/-! the first word -/
theorem fOf_b0 {S : PS} {c K V : Nat} {num : Nat → Nat} : fOf (S, 0, c, num) K V = btwF S K V := if_pos rfl
theorem btw_k {S : PS} {V k : Nat} (h : kw V = k) : btwF S 2 V = kwFt S k := by
  unfold btwF
  rw [if_neg (by decide), if_pos rfl, h]
theorem At.kg {R : (Nat × Nat) × PS} {h0 h g : PH} {T : Nat → Int32} {n p c k : Nat} {num : Nat → Nat} {S : PS} (a : At R h0 h T n (S, 0, c, num) p) (hK : tkK T n (rn cBl T n p) = 2) (hw : kw (tkV T n (rn cBl T n p)) = k) (hf : kwFt S k = 0) (hk : Mk g T n (rn cBl T n (tkE T n (rn cBl T n p)))) (f : Ms h g) : At R h0 g T n (S, k, 0, num) (tkE T n (rn cBl T n p)) := by
  have z := a.go (g := g) (by rw [fOf_b0, hK, btw_k hw, hf]) (by omega) hk (a.2.1.1.ms f) (a.2.2.2.2.ms f)
  have e : nxt (S, 0, c, num) (tkK T n (rn cBl T n p)) (tkV T n (rn cBl T n p)) = (S, k, 0, num) := by
    unfold nxt
    rw [if_pos rfl, hw]
  rw [e] at z
  exact z
theorem At.kb {R : (Nat × Nat) × PS} {h0 h : PH} {T : Nat → Int32} {n p c k f : Nat} {num : Nat → Nat} {S : PS} (a : At R h0 h T n (S, 0, c, num) p) (hK : tkK T n (rn cBl T n p) = 2) (hw : kw (tkV T n (rn cBl T n p)) = k) (hf : kwFt S k = f) (z : f ≠ 0) : Bad R h0 (sI (sI h 158 8 (nI f)) 158 9 (nI (rn cBl T n p))) := a.bad (by rw [fOf_b0, hK, btw_k hw, hf]) z
/-! names -/
theorem At.w1 {R : (Nat × Nat) × PS} {h0 h : PH} {T : Nat → Int32} {n p c k : Nat} {num : Nat → Nat} {S : PS} (a : At R h0 h T n (S, k + 1, c, num) p) (hd : dueK k c = 2) (hK : ¬ tkK T n (rn cBl T n p) = 2) : Bad R h0 (sI (sI h 158 8 (nI 1)) 158 9 (nI (rn cBl T n p))) := a.bad (by rw [fOf_w (k := k) rfl hd, if_pos hK]) (by decide)
theorem At.wb {R : (Nat × Nat) × PS} {h0 h : PH} {T : Nat → Int32} {n p c k f : Nat} {num : Nat → Nat} {S : PS} (a : At R h0 h T n (S, k + 1, c, num) p) (hd : dueK k c = 2) (hK : tkK T n (rn cBl T n p) = 2) (hf : nameF S k c (tkV T n (rn cBl T n p)) num = f) (z : f ≠ 0) : Bad R h0 (sI (sI h 158 8 (nI f)) 158 9 (nI (rn cBl T n p))) := a.bad (by rw [fOf_w (k := k) rfl hd, if_neg (fun y => y hK)]; exact hf) z
theorem At.w {R : (Nat × Nat) × PS} {h0 h g : PH} {T : Nat → Int32} {n p c k : Nat} {num : Nat → Nat} {S : PS} (a : At R h0 h T n (S, k + 1, c, num) p) (hd : dueK k c = 2) (hK : tkK T n (rn cBl T n p) = 2) (hf : nameF S k c (tkV T n (rn cBl T n p)) num = 0) (hk : Mk g T n (rn cBl T n (tkE T n (rn cBl T n p)))) (hB : Mt g T n) (f : Mf h0 g) : At R h0 g T n (nameS S k (tkV T n (rn cBl T n p)), k + 1, c + 1, upN num c (nameI S k c (tkV T n (rn cBl T n p)))) (tkE T n (rn cBl T n p)) := by
  have z := a.go (g := g) (by rw [fOf_w (k := k) rfl hd, if_neg (fun y => y hK)]; exact hf) (by omega) hk hB f
  have e := nxt_w (σ := (S, k + 1, c, num)) (V := tkV T n (rn cBl T n p)) (k := k) rfl
  rw [hK, e] at z
  exact z
/-! numbers -/
theorem At.nb {R : (Nat × Nat) × PS} {h0 h g : PH} {T : Nat → Int32} {n p f : Nat} {σ : SG} {v : Int32} (a : At R h0 h T n σ p) (e : fOf σ (tkK T n (rn cBl T n p)) (tkV T n (rn cBl T n p)) = f) (z : ¬ f = 0) (r : RdN h g T n (rn cBl T n p) f v) : Bad R h0 g := by
  rw [r.2.1 z]
  exact a.bad e z
theorem At.nn {R : (Nat × Nat) × PS} {h0 h g : PH} {T : Nat → Int32} {n p c k f : Nat} {num : Nat → Nat} {S : PS} {v : Int32} (a : At R h0 h T n (S, k + 1, c, num) p) (e : fOf (S, k + 1, c, num) (tkK T n (rn cBl T n p)) (tkV T n (rn cBl T n p)) = f) (z : f = 0) (r : RdN h g T n (rn cBl T n p) f v) : At R h0 g T n (S, k + 1, c + 1, upN num c (tkV T n (rn cBl T n p))) (tkE T n (rn cBl T n p)) ∧ Mg h g (tkV T n (rn cBl T n p)) ∧ tkV T n (rn cBl T n p) < 1000 := by
  obtain ⟨q3, m, k'⟩ := r.2.2 z
  have y := a.go (g := g) (e.trans z) (by omega) k' (a.2.1.1.mg m) (a.2.2.2.2.mg m)
  have e' := nxt_n (σ := (S, k + 1, c, num)) (V := tkV T n (rn cBl T n p)) (k := k) rfl
  rw [q3, e'] at y
  exact ⟨y, m, (tk_dig q3).2.2⟩
theorem fOf_N {S : PS} {k c K V lo hi : Nat} {num : Nat → Nat} (hd : dueK k c = 3) (hl : loK k c = lo) (hh : hiK k c = hi) (hc : ¬ lcK k c) (hx : ¬ (k = 3 ∧ c = 6)) : fOf (S, k + 1, c, num) K V = fRN lo hi K V := by
  rw [fOf_n (k := k) rfl hd]
  unfold fRN
  show (if K ≠ 3 then 1 else numF k c V num) = _
  unfold numF
  rw [hl, hh, if_neg (show ¬ (k = 3 ∧ c = 6 ∧ V = 1) from fun y => hx ⟨y.1, y.2.1⟩), if_neg (show ¬ (lcK k c ∧ V + csN num c ≠ 10) from fun y => hc y.1)]
theorem fOf_L {S : PS} {k c K V m : Nat} {num : Nat → Nat} (hd : dueK k c = 3) (hl : loK k c = 0) (hh : hiK k c = 10) (hc : lcK k c) (hx : ¬ (k = 3 ∧ c = 6)) (hm : csN num c = m) : fOf (S, k + 1, c, num) K V = fRL m K V := by
  rw [fOf_n (k := k) rfl hd]
  unfold fRL
  show (if K ≠ 3 then 1 else numF k c V num) = _
  unfold numF
  rw [hl, hh, hm, if_neg (show ¬ (k = 3 ∧ c = 6 ∧ V = 1) from fun y => hx ⟨y.1, y.2.1⟩)]
  by_cases q : K ≠ 3
  · rw [if_pos q, if_pos q]
  · rw [if_neg q, if_neg q]
    by_cases q1 : 10 < V
    · rw [if_pos (Or.inr q1), if_pos q1]
    · rw [if_neg (show ¬ (V < 0 ∨ 10 < V) by omega), if_neg q1]
      by_cases q2 : m + V ≠ 10
      · rw [if_pos q2, if_pos ⟨hc, by omega⟩]
      · rw [if_neg q2, if_neg (fun y => q2 (by have := y.2; omega))]
theorem fOf_9 {S : PS} {K V : Nat} {num : Nat → Nat} (hz : ¬ (K = 3 ∧ V = 1)) : fOf (S, 3 + 1, 6, num) K V = fRN 0 9 K V := by
  rw [fOf_n (k := 3) rfl rfl]
  unfold fRN
  show (if K ≠ 3 then 1 else numF 3 6 V num) = _
  by_cases q : K ≠ 3
  · rw [if_pos q, if_pos q]
  · rw [if_neg q, if_neg q]
    unfold numF
    rw [if_neg (show ¬ (3 = 3 ∧ 6 = 6 ∧ V = 1) from fun y => hz ⟨Decidable.not_not.mp q, y.2.2⟩), if_neg (show ¬ (lcK 3 6 ∧ V + csN num 6 ≠ 10) from fun y => absurd y.1 (by decide))]
    rfl
theorem fOf_1 {S : PS} {K V : Nat} {num : Nat → Nat} (h1 : K = 3) (h2 : V = 1) : fOf (S, 3 + 1, 6, num) K V = 2 := by
  rw [fOf_n (k := 3) rfl rfl, if_neg (fun y => y h1), h2]
  rfl
theorem At.x {R : (Nat × Nat) × PS} {h0 h : PH} {T : Nat → Int32} {n p : Nat} {σ : SG} (a : At R h0 h T n σ p) : ∃ q, At R h0 h T n σ q := ⟨p, a⟩
theorem fRN_z {lo hi K V : Nat} (h : fRN lo hi K V = 0) : V ≤ hi := by
  unfold fRN at h
  by_cases q : K ≠ 3
  · rw [if_pos q] at h
    omega
  · rw [if_neg q] at h
    by_cases q2 : V < lo ∨ hi < V
    · rw [if_pos q2] at h
      omega
    · omega
theorem fRL_z {m K V : Nat} (h : fRL m K V = 0) : V ≤ 10 := by
  unfold fRL at h
  by_cases q : K ≠ 3
  · rw [if_pos q] at h
    omega
  · rw [if_neg q] at h
    by_cases q2 : 10 < V
    · rw [if_pos q2] at h
      omega
    · omega
theorem At.nx {R : (Nat × Nat) × PS} {h0 h g : PH} {T : Nat → Int32} {n p c k lo hi : Nat} {num : Nat → Nat} {S : PS} {v : Int32} (a : At R h0 h T n (S, k + 1, c, num) p) (e : fOf (S, k + 1, c, num) (tkK T n (rn cBl T n p)) (tkV T n (rn cBl T n p)) = fRN lo hi (tkK T n (rn cBl T n p)) (tkV T n (rn cBl T n p))) (z : fRN lo hi (tkK T n (rn cBl T n p)) (tkV T n (rn cBl T n p)) = 0) (r : RdN h g T n (rn cBl T n p) (fRN lo hi (tkK T n (rn cBl T n p)) (tkV T n (rn cBl T n p))) v) : ∃ q V, At R h0 g T n (S, k + 1, c + 1, upN num c V) q ∧ Mg h g V ∧ V ≤ hi := ⟨_, _, (a.nn e z r).1, (a.nn e z r).2.1, fRN_z z⟩
theorem At.lx {R : (Nat × Nat) × PS} {h0 h g : PH} {T : Nat → Int32} {n p c k m : Nat} {num : Nat → Nat} {S : PS} {v : Int32} (a : At R h0 h T n (S, k + 1, c, num) p) (e : fOf (S, k + 1, c, num) (tkK T n (rn cBl T n p)) (tkV T n (rn cBl T n p)) = fRL m (tkK T n (rn cBl T n p)) (tkV T n (rn cBl T n p))) (z : fRL m (tkK T n (rn cBl T n p)) (tkV T n (rn cBl T n p)) = 0) (r : RdN h g T n (rn cBl T n p) (fRL m (tkK T n (rn cBl T n p)) (tkV T n (rn cBl T n p))) v) : ∃ q V, At R h0 g T n (S, k + 1, c + 1, upN num c V) q ∧ Mg h g V ∧ V ≤ 10 := ⟨_, _, (a.nn e z r).1, (a.nn e z r).2.1, fRL_z z⟩
theorem At.s24 {R : (Nat × Nat) × PS} {h0 h : PH} {T : Nat → Int32} {n p : Nat} {σ : SG} {x : Int32} (a : At R h0 h T n σ p) : At R h0 (sI h 158 24 x) T n σ p := by
  obtain ⟨⟨k1, k2, k3, k4, k5, k6⟩, ⟨⟨b1, b2, b3⟩, hp⟩, hO, hR, f⟩ := a
  exact ⟨⟨(rI_k (by decide)).trans k1, (rI_k (by decide)).trans k2, (rI_k (by decide)).trans k3, (rI_k (by decide)).trans k4, k5, fun y => (rI_k (by decide)).trans (k6 y)⟩, ⟨⟨fun i hi => (rI_c (by decide)).trans (b1 i hi), (rI_k (by decide)).trans b2, b3⟩, hp⟩, hO, hR, f.s (by unfold inD; omega)⟩
theorem nF_k {S : PS} {k c V : Nat} {num : Nat → Nat} (h4 : k ≠ 4) (h5 : k ≠ 5) : nameF S k c V num = if fdN (S.2.1 k) V (cntP S.1 k) = 0 then 0 else 3 := by
  unfold nameF
  rw [if_neg h4, if_neg h5]
theorem inD_160 {k : Nat} (h : 5 ≤ k) : inD 160 k := Or.inr (Or.inl ⟨rfl, h⟩)
theorem inD_164 {k : Nat} (h : 16 ≤ k) : inD 164 k := Or.inr (Or.inr (Or.inl ⟨rfl, h⟩))
theorem inD_165 {k : Nat} (h : 24 ≤ k) : inD 165 k := Or.inr (Or.inr (Or.inr (Or.inl ⟨rfl, h⟩)))
theorem inD_166 {k : Nat} (h : 80 ≤ k) : inD 166 k := Or.inr (Or.inr (Or.inr (Or.inr (Or.inl ⟨rfl, h⟩))))
theorem inD_167 {k : Nat} (_ : 0 ≤ k) : inD 167 k := Or.inl rfl
theorem inD_168 {k : Nat} (h : 4 ≤ k) : inD 168 k := Or.inr (Or.inr (Or.inr (Or.inr (Or.inr (Or.inl ⟨rfl, h⟩)))))
theorem inD_169 {k : Nat} (h : 4 ≤ k) : inD 169 k := Or.inr (Or.inr (Or.inr (Or.inr (Or.inr (Or.inr (Or.inl ⟨rfl, h⟩))))))
theorem inD_170 {k : Nat} (h : 18 ≤ k) : inD 170 k := Or.inr (Or.inr (Or.inr (Or.inr (Or.inr (Or.inr (Or.inr (Or.inl ⟨rfl, h⟩)))))))
theorem st_2 {K : Nat} (h : K < 5) : stM K = 2 ↔ K = 3 := (stM_i K h).1
theorem st_1 {K : Nat} (h : K < 5) : stM K = 1 ↔ K = 2 := (stM_i K h).2.1
theorem st_3 {K : Nat} (h : K < 5) : stM K = 3 ↔ K = 4 := (stM_i K h).2.2.1
theorem st_4 {K : Nat} (h : K < 5) : stM K = 4 ↔ K = 0 := (stM_i K h).2.2.2
/-- how a clause's reading ends: a fault, or all but its semicolon -/
def Rr (R : (Nat × Nat) × PS) (h0 h' : PH) (T : Nat → Int32) (n k i : Nat) (v : Int32) : Prop := (v = nI 0 ∧ Bad R h0 h') ∨ (v = nI 1 ∧ ∃ S c num p, At R h0 h' T n (S, k + 1, c, num) p ∧ dueK k c = 4 ∧ Md h' (settl S k num) ∧ (settl S k num).1 0 5 0 = i + 1)
