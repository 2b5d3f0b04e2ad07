/-! ===== frames ===== -/
def Fr (lo hi : Nat) (h h' : PH) : Prop := (∀ c, (c < lo ∨ hi < c) → h'.1 c = h.1 c ∧ h'.2.1 c = h.2.1 c) ∧ h'.2.2 = h.2.2
theorem Fr.rf {lo hi : Nat} {h : PH} : Fr lo hi h h := ⟨fun _ _ => ⟨rfl, rfl⟩, rfl⟩
theorem Fr.tr {lo hi : Nat} {h h1 h2 : PH} (a : Fr lo hi h h1) (b : Fr lo hi h1 h2) : Fr lo hi h h2 := ⟨fun c hc => ⟨((b.1 c hc).1).trans (a.1 c hc).1, ((b.1 c hc).2).trans (a.1 c hc).2⟩, b.2.trans a.2⟩
theorem Fr.mo {lo hi lo' hi' : Nat} {h h' : PH} (a : Fr lo hi h h') (h1 : lo' ≤ lo) (h2 : hi ≤ hi') : Fr lo' hi' h h' := ⟨fun c hc => a.1 c (by omega), a.2⟩
theorem Fr.wI {lo hi : Nat} {h : PH} {c : Nat} {g : Nat → Int32} (h1 : lo ≤ c) (h2 : c ≤ hi) : Fr lo hi h (wI h c g) := ⟨fun a ha => ⟨rW_c (by omega), rfl⟩, rfl⟩
theorem Fr.wL {lo hi : Nat} {h : PH} {c : Nat} {g : Nat → Int64} (h1 : lo ≤ c) (h2 : c ≤ hi) : Fr lo hi h (wL h c g) := ⟨fun a ha => ⟨rfl, rWL_c (by omega)⟩, rfl⟩
theorem Fr.sI {lo hi : Nat} {h : PH} {c k : Nat} {x : Int32} (h1 : lo ≤ c) (h2 : c ≤ hi) : Fr lo hi h (sI h c k x) := Fr.wI h1 h2
theorem Fr.sL {lo hi : Nat} {h : PH} {c k : Nat} {x : Int64} (h1 : lo ≤ c) (h2 : c ≤ hi) : Fr lo hi h (sL h c k x) := Fr.wL h1 h2
theorem Fr.i {lo hi : Nat} {h h' : PH} (a : Fr lo hi h h') {c k : Nat} (hc : c < lo ∨ hi < c) : h'.1 c k = h.1 c k := congrFun (a.1 c hc).1 k
theorem Fr.l {lo hi : Nat} {h h' : PH} (a : Fr lo hi h h') {c k : Nat} (hc : c < lo ∨ hi < c) : h'.2.1 c k = h.2.1 c k := congrFun (a.1 c hc).2 k
theorem Fr.r {lo hi : Nat} {h h' : PH} (a : Fr lo hi h h') {c k : Nat} : h'.2.2 c k = h.2.2 c k := by rw [a.2]
theorem Fr.g {lo hi : Nat} {h h' : PH} (a : Fr lo hi h h') (hG : GR h.2.2) : GR h'.2.2 := by rw [a.2]; exact hG
/-! ===== what is told, as numbers ===== -/
/-- P 0 k 0: weeks, cases, winters, things, families, clauses (k 0 .. 5); P 1 w a: a winter's weight and signs; P 2 t a: a thing's six numbers; P 3 (4 * t + w) n: wants; P 4 t 0: who does for it, plus one (0: none); P 5 t 0: at how much; P 6 f a: a family's three -/
abbrev PD : Type := Nat → Nat → Nat → Nat
/-- RU t 0, RU t 1: a rule's kind and number -/
abbrev RD : Type := Nat → Nat → Nat
def hlp (n : Nat) : Int32 := match n with
  | 0 => -1
  | k + 1 => nI k
def sm (f : Nat → Nat) : Nat → Nat
  | 0 => 0
  | n + 1 => sm f n + f n
def OkP (P : PD) : Prop :=
  ((1 ≤ P 0 0 0 ∧ P 0 0 0 ≤ 5) ∧ P 0 1 0 ≤ 99 ∧ P 0 2 0 ≤ 4 ∧ P 0 3 0 ≤ 4 ∧ P 0 4 0 ≤ 6 ∧ P 0 5 0 ≤ 900) ∧
  (∀ w, w < P 0 2 0 → (P 1 w 0 ≤ 10 ∧ P 1 w 1 + P 1 w 2 + P 1 w 3 = 10)) ∧ (0 < P 0 2 0 → sm (fun w => P 1 w 0) (P 0 2 0) = 10) ∧
  (∀ t, t < P 0 3 0 → (1 ≤ P 2 t 0 ∧ P 2 t 0 ≤ 9) ∧ P 2 t 1 ≤ 99 ∧ P 2 t 2 ≤ 99 ∧ P 2 t 3 ≤ 500 ∧ P 2 t 4 ≤ 99 ∧ (P 2 t 5 ≤ 9 ∧ P 2 t 5 ≠ 1)) ∧
  (∀ t, t < P 0 3 0 → ∀ w, w < 4 → (P 3 (4 * t + w) 0 + P 3 (4 * t + w) 1 + P 3 (4 * t + w) 2 + P 3 (4 * t + w) 3 = 10 ∧ P 3 (4 * t + w) 4 ≤ 3)) ∧
  (∀ t, t < P 0 3 0 → P 4 t 0 ≤ P 0 3 0 ∧ (P 4 t 0 ≠ 0 → P 5 t 0 ≤ 100)) ∧
  (∀ f, f < P 0 4 0 → P 6 f 0 ≤ 10 ∧ (1 ≤ P 6 f 1 ∧ P 6 f 1 ≤ 500) ∧ P 6 f 2 ≤ 500)
def OkR (P : PD) (U : RD) : Prop := ∀ t, t < P 0 3 0 → U t 0 ≤ 2 ∧ U t 1 ≤ 40
/-- the class's Post at cell p tells P -/
def PoX (h : PH) (p : Nat) (P : PD) : Prop :=
  (h.1 p 0 = nI (P 0 0 0) ∧ h.1 p 1 = nI (P 0 1 0) ∧ h.1 p 2 = nI (P 0 5 0) ∧ h.1 p 3 = nI (P 0 2 0) ∧ h.1 p 4 = nI (P 0 3 0) ∧ h.1 p 5 = nI (P 0 4 0)) ∧
  (∀ w, w < P 0 2 0 → h.2.1 (p + 1) w = lN (P 1 w 0)) ∧ (∀ w, w < P 0 2 0 → ∀ a, a < 3 → h.1 (p + 3 + w) a = nI (P 1 w (a + 1))) ∧
  (∀ t, t < P 0 3 0 → ∀ a, a < 6 → h.1 (p + 9 + 7 * t) a = nI (P 2 t a)) ∧
  (∀ t, t < P 0 3 0 → ∀ w, w < 4 → ∀ n, n < 5 → h.1 (p + 9 + 7 * t + 2 + w) n = nI (P 3 (4 * t + w) n)) ∧
  (∀ t, t < P 0 3 0 → h.1 (p + 9 + 7 * t) 6 = hlp (P 4 t 0) ∧ (P 4 t 0 ≠ 0 → h.1 (p + 9 + 7 * t) 7 = nI (P 5 t 0))) ∧
  (∀ f, f < P 0 4 0 → ∀ a, a < 3 → h.1 (p + 37 + f) a = nI (P 6 f a))
def RuX (h : PH) (p : Nat) (P : PD) (U : RD) : Prop := ∀ t, t < P 0 3 0 → h.1 (p + 9 + 7 * t) 8 = nI (U t 0) ∧ h.1 (p + 9 + 7 * t) 9 = nI (U t 1)
/-- the model tells P -/
def PoM (h : PH) (P : PD) : Prop :=
  (∀ k, k < 5 → h.1 160 k = nI (P 0 k 0)) ∧ h.1 158 23 = nI (P 0 5 0) ∧
  (∀ w, w < P 0 2 0 → ∀ a, a < 4 → h.1 164 (4 * w + a) = nI (P 1 w a)) ∧
  (∀ t, t < P 0 3 0 → ∀ a, a < 6 → h.1 165 (6 * t + a) = nI (P 2 t a)) ∧
  (∀ t, t < P 0 3 0 → ∀ w, w < 4 → ∀ n, n < 5 → h.1 166 (5 * (4 * t + w) + n) = nI (P 3 (4 * t + w) n)) ∧
  (∀ t, t < P 0 3 0 → h.1 168 t = hlp (P 4 t 0) ∧ (P 4 t 0 ≠ 0 → h.1 169 t = nI (P 5 t 0))) ∧
  (∀ f, f < P 0 4 0 → ∀ a, a < 3 → h.1 170 (3 * f + a) = nI (P 6 f a))
def RuM (h : PH) (P : PD) (U : RD) : Prop := ∀ t, t < P 0 3 0 → h.1 171 t = nI (U t 0) ∧ h.1 172 t = nI (U t 1)
/-! ===== one week's value, and weeks backwards ===== -/
/-- what a week is worth: sf 1: only whether nothing is lacked -/
def wv (sf : Nat) (pg pl pm ps ways : Int64) (val : Nat → Int64) (g l m s r : Nat) : Int64 := if sf = 1 then (if 0 < l then 0 else val r) else (pg * lN g + pl * lN l + pm * lN m + ps * lN s) * ways + val r
def wkv (rk rl so ne sf : Nat) (pg pl pm ps ways : Int64) (val : Nat → Int64) (s n : Nat) : Int64 := wv sf pg pl pm ps ways val (gvN rk rl s n ne) (lkN s n ne) (msN rk rl s n ne) (slN so (rsN rk rl s n ne)) (rsN rk rl s n ne - slN so (rsN rk rl s n ne))
def vbN (rk rl so : Nat) (u : Nat → Nat) (sf : Nat) (pg pl pm ps ways : Int64) (val : Nat → Int64) (s : Nat) : Nat → Int64
  | 0 => 0
  | n + 1 => vbN rk rl so u sf pg pl pm ps ways val s n + lN (u n) * wkv rk rl so (u 4) sf pg pl pm ps ways val s n
theorem lN_0 : lN 0 = 0 := rfl
def tenL : Nat → Int64
  | 0 => 1
  | n + 1 => tenL n * 10
def VB (rk rl so : Nat) (u : Nat → Nat) (sf : Nat) (pg pl pm ps : Int64) (ways : Int64) (val : Nat → Int64) : Nat → Nat → Int64
  | 0 => val
  | i + 1 => fun s => vbN rk rl so u sf pg pl pm ps (ways * tenL i) (VB rk rl so u sf pg pl pm ps ways val i) s 4
theorem rs_le (rk rl s wa ne : Nat) : rsN rk rl s wa ne ≤ s := by
  unfold rsN
  omega
/-! ===== bundles ===== -/
def OL (h : PH) (sf : Nat) (pg pl pm ps : Int64) : Prop := h.1 92 5 = nI sf ∧ h.2.1 92 6 = pg ∧ h.2.1 92 7 = pl ∧ h.2.1 92 8 = pm ∧ h.2.1 92 9 = ps ∧ sf < 2
def TH (h : PH) (th rk rl so : Nat) : Prop := h.1 th 8 = nI rk ∧ h.1 th 9 = nI rl ∧ h.1 th 5 = nI so ∧ rk < 1000 ∧ rl < 1000 ∧ so < 1000
def WA (h : PH) (c : Nat) (u : Nat → Nat) : Prop := ∀ n, n < 5 → h.1 c n = nI (u n) ∧ u n ≤ 10
theorem TH.fr {lo hi : Nat} {h h' : PH} {th rk rl so : Nat} (a : TH h th rk rl so) (f : Fr lo hi h h') (hc : th < lo ∨ hi < th) : TH h' th rk rl so := ⟨(f.i hc).trans a.1, (f.i hc).trans a.2.1, (f.i hc).trans a.2.2.1, a.2.2.2⟩
theorem WA.fr {lo hi : Nat} {h h' : PH} {c : Nat} {u : Nat → Nat} (a : WA h c u) (f : Fr lo hi h h') (hc : c < lo ∨ hi < c) : WA h' c u := fun n hn => ⟨(f.i hc).trans (a n hn).1, (a n hn).2⟩
theorem OL.fr {lo hi : Nat} {h h' : PH} {sf : Nat} {pg pl pm ps : Int64} (a : OL h sf pg pl pm ps) (f : Fr lo hi h h') (hc : 92 < lo ∨ hi < 92) : OL h' sf pg pl pm ps := ⟨(f.i hc).trans a.1, (f.l hc).trans a.2.1, (f.l hc).trans a.2.2.1, (f.l hc).trans a.2.2.2.1, (f.l hc).trans a.2.2.2.2.1, a.2.2.2.2.2⟩
/-! ===== fills ===== -/
def fil {α : Type} (g : Nat → α) (k : Nat) (f : Nat → α) : Nat → α := fun j => if j < k then g j else f j
theorem fil_0 {α : Type} {g f : Nat → α} : fil g 0 f = f := by funext j; simp [fil]
theorem fil_at {α : Type} {g f : Nat → α} {i j : Nat} (h : i ≤ j) : fil g i f j = f j := by simp [fil]; omega
theorem fil_in {α : Type} {g f : Nat → α} {i j : Nat} (h : j < i) : fil g i f j = g j := by simp [fil, h]
theorem wL_wL {h : PH} {c : Nat} {g g' : Nat → Int64} : wL (wL h c g) c g' = wL h c g' := by
  unfold wL
  congr 2
  funext a
  by_cases e : a = c <;> simp [up2, e]
theorem wI_wI {h : PH} {c : Nat} {g g' : Nat → Int32} : wI (wI h c g) c g' = wI h c g' := by
  unfold wI
  congr 1
  funext a
  by_cases e : a = c <;> simp [up2, e]
theorem fil_stL {h : PH} {c i : Nat} {g f : Nat → Int64} {x : Int64} (e : x = g i) : sL (wL h c (fil g i f)) c i x = wL h c (fil g (i + 1) f) := by
  unfold sL
  rw [rWL_s, wL_wL]
  congr 1
  funext j
  by_cases q : j = i
  · subst q; simp [vp_updL, fil, e]
  · simp only [vp_updL, q, fil, if_false]
    by_cases z : j < i
    · simp [z, Nat.lt_succ_of_lt z]
    · simp [z, show ¬ j < i + 1 by omega]
theorem fil_stI {h : PH} {c i : Nat} {g f : Nat → Int32} {x : Int32} (e : x = g i) : sI (wI h c (fil g i f)) c i x = wI h c (fil g (i + 1) f) := by
  unfold sI
  rw [rW_s, wI_wI]
  congr 1
  funext j
  by_cases q : j = i
  · subst q; simp [upd, fil, e]
  · simp only [upd, q, fil, if_false]
    by_cases z : j < i
    · simp [z, Nat.lt_succ_of_lt z]
    · simp [z, show ¬ j < i + 1 by omega]
theorem wL_id {h : PH} {c : Nat} : wL h c (h.2.1 c) = h := by
  unfold wL
  have : up2 h.2.1 c (h.2.1 c) = h.2.1 := by funext a; by_cases e : a = c <;> simp [up2, e]
  rw [this]
theorem wI_id {h : PH} {c : Nat} : wI h c (h.1 c) = h := by
  unfold wI
  have : up2 h.1 c (h.1 c) = h.1 := by funext a; by_cases e : a = c <;> simp [up2, e]
  rw [this]
theorem fil_h0L {h : PH} {c : Nat} {g : Nat → Int64} : h = wL h c (fil g 0 (h.2.1 c)) := by rw [fil_0, wL_id]
theorem fil_h0I {h : PH} {c : Nat} {g : Nat → Int32} : h = wI h c (fil g 0 (h.1 c)) := by rw [fil_0, wI_id]
section JCP
variable {M : MD} {R : Room} {sh0 : SH} {Z : ZT} {pc nx : Nat} {L : List (Option PV)} {st : List PV} {sh : SH} {h : PH}
theorem J_cpyLN {i c1 c2 n1 n2 a b n : Nat} (hd : DI M pc (.invokestatic i) 3 nx) (hk : Cond.methodLink (mown M) i arraycopyName ∈ lw_g) (hc1 : sh[c1]? = some (.inr (3, n1))) (hc2 : sh[c2]? = some (.inr (3, n2))) (ba : a < 2 ^ 31) (bb : b < 2 ^ 31) (bn : n < 2 ^ 31) (h4 : a + n ≤ n1) (h5 : b + n ≤ n2) (hf : 1 ≤ R.frames) (hw : (st.map pcat).sum + (nativeFrameWords "java/lang/System" "arraycopy" 5 + 11) ≤ R.locals) (kk : J M R sh0 Z nx L st sh (wL h c2 (va_cpy (h.2.1 c1) (h.2.1 c2) a b n))) : J M R sh0 Z pc L (pI (nI n) :: pI (nI b) :: pR (some c2) :: pI (nI a) :: pR (some c1) :: st) sh h := by
  refine J_cpyL hd hk w_cp_n w_cp_s w_cp_i hc1 hc2 (nI_pos ba) (nI_pos bb) (nI_pos bn) ?_ ?_ hf hw ?_
  · rw [nI_clamp ba, nI_clamp bn]; exact h4
  · rw [nI_clamp bb, nI_clamp bn]; exact h5
  · rw [nI_clamp ba, nI_clamp bb, nI_clamp bn]; exact kk
theorem J_cpyIN {i c1 c2 n1 n2 a b n : Nat} (hd : DI M pc (.invokestatic i) 3 nx) (hk : Cond.methodLink (mown M) i arraycopyName ∈ lw_g) (hc1 : sh[c1]? = some (.inr (0, n1))) (hc2 : sh[c2]? = some (.inr (0, n2))) (ba : a < 2 ^ 31) (bb : b < 2 ^ 31) (bn : n < 2 ^ 31) (h4 : a + n ≤ n1) (h5 : b + n ≤ n2) (hf : 1 ≤ R.frames) (hw : (st.map pcat).sum + (nativeFrameWords "java/lang/System" "arraycopy" 5 + 11) ≤ R.locals) (kk : J M R sh0 Z nx L st sh (wI h c2 (va_cpy (h.1 c1) (h.1 c2) a b n))) : J M R sh0 Z pc L (pI (nI n) :: pI (nI b) :: pR (some c2) :: pI (nI a) :: pR (some c1) :: st) sh h := by
  refine J_cpyI hd hk w_cp_n w_cp_s w_cp_i hc1 hc2 (nI_pos ba) (nI_pos bb) (nI_pos bn) ?_ ?_ hf hw ?_
  · rw [nI_clamp ba, nI_clamp bn]; exact h4
  · rw [nI_clamp bb, nI_clamp bn]; exact h5
  · rw [nI_clamp ba, nI_clamp bb, nI_clamp bn]; exact kk
end JCP
/-- Outlook's work: only value, fresh, week and ways change -/
def FO (h h' : PH) : Prop := (∀ c, (c < 92 ∨ 97 < c ∨ c = 94 ∨ c = 96) → h'.1 c = h.1 c ∧ h'.2.1 c = h.2.1 c) ∧ h'.1 92 = h.1 92 ∧ (∀ k, k ≠ 11 → h'.2.1 92 k = h.2.1 92 k) ∧ h'.2.2 = h.2.2
theorem FO.rf {h : PH} : FO h h := ⟨fun _ _ => ⟨rfl, rfl⟩, rfl, fun _ _ => rfl, rfl⟩
theorem FO.tr {h h1 h2 : PH} (a : FO h h1) (b : FO h1 h2) : FO h h2 := ⟨fun c hc => ⟨((b.1 c hc).1).trans (a.1 c hc).1, ((b.1 c hc).2).trans (a.1 c hc).2⟩, b.2.1.trans a.2.1, fun k hk => (b.2.2.1 k hk).trans (a.2.2.1 k hk), b.2.2.2.trans a.2.2.2⟩
theorem FO.fr {h h' : PH} (a : FO h h') : Fr 92 97 h h' := ⟨fun c hc => a.1 c (by omega), a.2.2.2⟩
theorem FO.of97 {h h' : PH} (a : Fr 97 97 h h') : FO h h' := ⟨fun c hc => a.1 c (by omega), (a.1 92 (by omega)).1, fun k _ => a.l (by omega), a.2⟩
theorem FO.sl {h : PH} {c k : Nat} {x : Int64} (hc : c = 93 ∨ c = 95) : FO h (sL h c k x) := ⟨fun a ha => ⟨rfl, rWL_c (by omega)⟩, rfl, fun k _ => congrFun (rWL_c (by omega)) k, rfl⟩
theorem FO.wl {h : PH} {c : Nat} {g : Nat → Int64} (hc : c = 93 ∨ c = 95) : FO h (wL h c g) := ⟨fun a ha => ⟨rfl, rWL_c (by omega)⟩, rfl, fun k _ => congrFun (rWL_c (by omega)) k, rfl⟩
theorem FO.ways {h : PH} {x : Int64} : FO h (wL h 92 (vp_updL (h.2.1 92) 11 x)) := ⟨fun a ha => ⟨rfl, rWL_c (by omega)⟩, rfl, fun k hk => by rw [rWL_s]; simp [vp_updL, hk], rfl⟩
theorem OL.fo {h h' : PH} {sf : Nat} {pg pl pm ps : Int64} (a : OL h sf pg pl pm ps) (f : FO h h') : OL h' sf pg pl pm ps := ⟨(congrFun f.2.1 5).trans a.1, (f.2.2.1 6 (by decide)).trans a.2.1, (f.2.2.1 7 (by decide)).trans a.2.2.1, (f.2.2.1 8 (by decide)).trans a.2.2.2.1, (f.2.2.1 9 (by decide)).trans a.2.2.2.2.1, a.2.2.2.2.2⟩
theorem vbN_congr {rk rl so : Nat} {u : Nat → Nat} {sf : Nat} {pg pl pm ps ways : Int64} {V V' : Nat → Int64} {s : Nat} (h : ∀ r, r ≤ s → V r = V' r) : ∀ n, vbN rk rl so u sf pg pl pm ps ways V s n = vbN rk rl so u sf pg pl pm ps ways V' s n
  | 0 => rfl
  | n + 1 => by
    have hr := rs_le rk rl s n (u 4)
    rw [vbN, vbN, vbN_congr h n]
    unfold wkv wv
    rw [h _ (by omega)]
theorem mul_lt31 {a b : Nat} (A B : Nat) (ha : a ≤ A) (hb : b ≤ B) (h : A * B < 2 ^ 31) : a * b < 2 ^ 31 := Nat.lt_of_le_of_lt (Nat.mul_le_mul ha hb) h
theorem J_drop {M : MD} {R : Room} {sh0 : SH} {Z : ZT} {pc : Nat} {L L' : List (Option PV)} {st : List PV} {sh : SH} {h : PH} (k : Nat) (e : L.set k none = L') (kk : J M R sh0 Z pc L' st sh h) : J M R sh0 Z pc L st sh h := by
  intro X p l en s m args below meth c H locs ls C z hl hr hS
  refine kk X p l en s m args below meth c H locs ls C z ⟨hl.1, hl.2.1, fun i v hv => hl.2.2 i v ?_⟩ hr hS
  rw [← e] at hv
  by_cases q : k = i
  · subst q
    by_cases z : k < L.length
    · rw [List.getElem?_set_self z] at hv; cases hv
    · rw [List.getElem?_eq_none (by simp; omega)] at hv; cases hv
  · rw [List.getElem?_set_ne q] at hv
    exact hv
theorem xIL {h : PH} {c a j : Nat} {g : Nat → Int64} : (wL h c g).1 a j = h.1 a j := rfl
theorem xIR {h : PH} {c a j : Nat} {g : Nat → Option Nat} : (wR h c g).1 a j = h.1 a j := rfl
theorem xLI {h : PH} {c a j : Nat} {g : Nat → Int32} : (wI h c g).2.1 a j = h.2.1 a j := rfl
theorem xLR {h : PH} {c a j : Nat} {g : Nat → Option Nat} : (wR h c g).2.1 a j = h.2.1 a j := rfl
theorem xRI {h : PH} {c a j : Nat} {g : Nat → Int32} : (wI h c g).2.2 a j = h.2.2 a j := rfl
theorem xRL {h : PH} {c a j : Nat} {g : Nat → Int64} : (wL h c g).2.2 a j = h.2.2 a j := rfl
