/-! ===== post: the model, words ===== -/
def Rq (R : (Nat × Nat) × PS) (h0 h' : PH) (T : Nat → Int32) (n i : Nat) (v : Int32) : Prop := (v = nI 0 ∧ Bad R h0 h') ∨ (v = nI 1 ∧ ∃ k S c num p, At R h0 h' T n (S, k + 1, c, num) p ∧ dueK k c = 4 ∧ Md h' (settl S k num) ∧ (settl S k num).1 0 5 0 = i + 1)
theorem Rr.q {R : (Nat × Nat) × PS} {h0 h' : PH} {T : Nat → Int32} {n k i : Nat} {v : Int32} (a : Rr R h0 h' T n k i v) : Rq R h0 h' T n i v := by
  rcases a with y | ⟨e, S, c, num, p, y⟩
  · exact Or.inl y
  · exact Or.inr ⟨e, k, S, c, num, p, y⟩
theorem c_X10_readClause {R : (Nat × Nat) × PS} {h0 h : PH} {T : Nat → Int32} {n p c i : Nat} {num : Nat → Nat} {S : PS} (hG : GR h.2.2) (hA : At R h0 h T n (S, 0, c, num) p) (hD : Md h S) (hi : S.1 0 5 0 = i) (hK0 : ¬ tkK T n (rn cBl T n p) = 0) : CtI mX10_readClause h [pR (some 158), pI (nI i)] (fun v h' => Rq R h0 h' T n i v) := by
  subst hi
  by_cases hK : tkK T n (rn cBl T n p) = 2
  · have hle := kw_le (V := tkV T n (rn cBl T n p))
    rcases hkw : kw (tkV T n (rn cBl T n p)) with _ | k
    · exact CtI.mono (c_readClause_x hG hA hD hK0 (fun _ => hkw)) (fun _ _ y => Or.inl y)
    · have z : k = 0 ∨ k = 1 ∨ k = 2 ∨ k = 3 ∨ k = 4 ∨ k = 5 ∨ k = 6 := by omega
      rcases z with rfl | rfl | rfl | rfl | rfl | rfl | rfl
      · exact CtI.mono (c_readClause_0 hG hA hD hK hkw) (fun _ _ y => y.q)
      · exact CtI.mono (c_readClause_1 hG hA hD hK hkw) (fun _ _ y => y.q)
      · exact CtI.mono (c_readClause_2 hG hA hD hK hkw) (fun _ _ y => y.q)
      · exact CtI.mono (c_readClause_3 hG hA hD hK hkw) (fun _ _ y => y.q)
      · exact CtI.mono (c_readClause_4 hG hA hD hK hkw) (fun _ _ y => y.q)
      · exact CtI.mono (c_readClause_5 hG hA hD hK hkw) (fun _ _ y => y.q)
      · exact CtI.mono (c_readClause_6 hG hA hD hK hkw) (fun _ _ y => y.q)
  · exact CtI.mono (c_readClause_x hG hA hD hK0 (fun y => absurd y hK)) (fun _ _ y => Or.inl y)
theorem At.sc {R : (Nat × Nat) × PS} {h0 h g : PH} {T : Nat → Int32} {n p c k : Nat} {num : Nat → Nat} {S : PS} (a : At R h0 h T n (S, k + 1, c, num) p) (hd : dueK k c = 4) (hK : tkK T n (rn cBl T n p) = 4) (hk : Mk g T n (rn cBl T n (tkE T n (rn cBl T n p)))) (f : Ms h g) : At R h0 g T n (settl S k num, 0, c, num) (tkE T n (rn cBl T n p)) := by
  have z := a.go (g := g) (by rw [fOf_s (k := k) rfl hd, if_neg (fun y => y hK)]) (by omega) hk (a.2.1.1.ms f) (a.2.2.2.2.ms f)
  have e := nxt_s (σ := (S, k + 1, c, num)) (V := tkV T n (rn cBl T n p)) (k := k) rfl
  rw [hK, e] at z
  exact z
theorem At.s1 {R : (Nat × Nat) × PS} {h0 h : PH} {T : Nat → Int32} {n p c k : Nat} {num : Nat → Nat} {S : PS} (a : At R h0 h T n (S, k + 1, c, num) p) (hd : dueK k c = 4) (hK : ¬ tkK T n (rn cBl T n p) = 4) : Bad R h0 (sI (sI h 158 8 (nI 1)) 158 9 (nI (rn cBl T n p))) := a.bad (by rw [fOf_s (k := k) rfl hd, if_pos hK]) (by decide)
theorem At.e7 {R : (Nat × Nat) × PS} {h0 h : PH} {T : Nat → Int32} {n p c : Nat} {num : Nat → Nat} {S : PS} (a : At R h0 h T n (S, 0, c, num) p) (hK : tkK T n (rn cBl T n p) = 0) (hw : ¬ wOk S.1) : Bad R h0 (sI (sI h 158 8 (nI 7)) 158 9 (nI (rn cBl T n p))) := a.bad (fOf_b0.trans (btw_f hK hw)) (by decide)
theorem At.e0 {R : (Nat × Nat) × PS} {h0 h : PH} {T : Nat → Int32} {n p c : Nat} {num : Nat → Nat} {S : PS} (a : At R h0 h T n (S, 0, c, num) p) (hK : tkK T n (rn cBl T n p) = 0) (hw : wOk S.1) : R = ((0, 0), S) := a.2.2.2.1.trans (pRn_end (fOf_b0.trans (btw_t hK hw)) hK)
theorem nD {c k : Nat} (h : c ≠ 158 ∧ (c < 160 ∨ (160 < c ∧ c < 164) ∨ 170 < c)) : ¬ inD c k := by
  unfold inD
  omega
theorem nD8 {k : Nat} (h : k < 3 ∨ (7 < k ∧ k ≠ 11 ∧ k ≠ 24)) : ¬ inD 158 k := by
  unfold inD
  omega
/-- reading leaves what the model tells -/
theorem MI.mf {h g : PH} {A : AS} (a : MI h A) (hW : WF A) (f : Mf h g) : MI g A := by
  have bw := hW.wn
  have bt := hW.tn
  have bf := hW.fn
  obtain ⟨⟨a1, a2⟩, ⟨c0, c1, c2, c3, c4, c5, c6⟩, a4, ⟨a5, a6⟩, ⟨a7, a8⟩, ⟨a9, a10, a11⟩, a12⟩ := a
  have N0 : ∀ c k, c = 160 ∧ k < 5 ∨ c = 164 ∧ k < 16 ∨ c = 165 ∧ k < 24 ∨ c = 166 ∧ k < 80 ∨ c = 168 ∧ k < 4 ∨ c = 169 ∧ k < 4 ∨ c = 170 ∧ k < 18 → ¬ inD c k := fun c k z => by
    unfold inD
    omega
  exact ⟨⟨fun i hi => (f.1 _ _ (nD (by omega))).trans (a1 i hi), (f.1 _ _ (nD8 (by omega))).trans a2⟩, ⟨fun k hk => (f.1 _ _ (N0 _ _ (by omega))).trans (c0 k hk), (f.1 _ _ (nD8 (by omega))).trans c1, fun w hw k hk => (f.1 _ _ (N0 _ _ (by omega))).trans (c2 w hw k hk), fun w hw k hk => (f.1 _ _ (N0 _ _ (by omega))).trans (c3 w hw k hk), fun t ht w hw k hk => (f.1 _ _ (N0 _ _ (by omega))).trans (c4 t ht w hw k hk), fun t ht => ⟨(f.1 _ _ (N0 _ _ (by omega))).trans (c5 t ht).1, fun z => (f.1 _ _ (N0 _ _ (by omega))).trans ((c5 t ht).2 z)⟩, fun w hw k hk => (f.1 _ _ (N0 _ _ (by omega))).trans (c6 w hw k hk)⟩, fun t ht => ⟨(f.1 _ _ (nD (by omega))).trans (a4 t ht).1, (f.1 _ _ (nD (by omega))).trans (a4 t ht).2⟩, ⟨(f.1 _ _ (nD8 (by omega))).trans a5, (f.1 _ _ (nD8 (by omega))).trans a6⟩, ⟨(f.1 _ _ (nD8 (by omega))).trans a7, fun z t ht => (f.1 _ _ (nD (by omega))).trans (a8 z t ht)⟩, ⟨(f.1 _ _ (nD (by omega))).trans a9, fun r hr => (f.1 _ _ (nD (by omega))).trans (a10 r hr), fun r hr z => ⟨⟨(f.1 _ _ (nD (by omega))).trans (a11 r hr z).1.1, (f.1 _ _ (nD (by omega))).trans (a11 r hr z).1.2.1, (f.1 _ _ (nD (by omega))).trans (a11 r hr z).1.2.2.1, fun t ht => ⟨fun i hi => (f.1 _ _ (nD (by omega))).trans (((a11 r hr z).1.2.2.2 t ht).1 i hi), (f.1 _ _ (nD (by omega))).trans ((a11 r hr z).1.2.2.2 t ht).2⟩⟩, (f.2.1 _ _ (by decide) (by decide) (by decide) (by decide)).trans (a11 r hr z).2.1, (f.1 _ _ (nD (by omega))).trans (a11 r hr z).2.2⟩⟩, (f.1 _ _ (nD8 (by omega))).trans a12⟩
/-- a fault is told -/
theorem MI.flt {h : PH} {A : AS} {x y : Int32} (a : MI h A) : MI (sI (sI h 158 8 x) 158 9 y) (wF A (x, y)) := by
  have F : ∀ c k, c ≠ 158 → (sI (sI h 158 8 x) 158 9 y).1 c k = h.1 c k := fun c k z => (rI_c z).trans (rI_c z)
  have E : ∀ k, k ≠ 8 → k ≠ 9 → (sI (sI h 158 8 x) 158 9 y).1 158 k = h.1 158 k := fun k z1 z2 => (rI_k z2).trans (rI_k z1)
  obtain ⟨⟨a1, a2⟩, ⟨c0, c1, c2, c3, c4, c5, c6⟩, a4, -, ⟨a7, a8⟩, ⟨a9, a10, a11⟩, a12⟩ := a
  exact ⟨⟨fun i hi => (F _ _ (by decide)).trans (a1 i hi), (E _ (by decide) (by decide)).trans a2⟩, ⟨fun k hk => (F _ _ (by decide)).trans (c0 k hk), (E _ (by decide) (by decide)).trans c1, fun w hw k hk => (F _ _ (by decide)).trans (c2 w hw k hk), fun w hw k hk => (F _ _ (by decide)).trans (c3 w hw k hk), fun t ht w hw k hk => (F _ _ (by decide)).trans (c4 t ht w hw k hk), fun t ht => ⟨(F _ _ (by decide)).trans (c5 t ht).1, fun z => (F _ _ (by decide)).trans ((c5 t ht).2 z)⟩, fun w hw k hk => (F _ _ (by decide)).trans (c6 w hw k hk)⟩, fun t ht => ⟨(F _ _ (by decide)).trans (a4 t ht).1, (F _ _ (by decide)).trans (a4 t ht).2⟩, ⟨(rI_k (by decide)).trans rI_s, rI_s⟩, ⟨(E _ (by decide) (by decide)).trans a7, fun z t ht => (F _ _ (by decide)).trans (a8 z t ht)⟩, ⟨(F _ _ (by decide)).trans a9, fun r hr => (F _ _ (by decide)).trans (a10 r hr), fun r hr z => ⟨⟨(F _ _ (by decide)).trans (a11 r hr z).1.1, (F _ _ (by decide)).trans (a11 r hr z).1.2.1, (F _ _ (by decide)).trans (a11 r hr z).1.2.2.1, fun t ht => ⟨fun i hi => (F _ _ (by decide)).trans (((a11 r hr z).1.2.2.2 t ht).1 i hi), (F _ _ (by decide)).trans ((a11 r hr z).1.2.2.2 t ht).2⟩⟩, (a11 r hr z).2.1, (F _ _ (by decide)).trans (a11 r hr z).2.2⟩⟩, (E _ (by decide) (by decide)).trans a12⟩
theorem MI.good {h g z : PH} {A : AS} {S : PS} {b : Nat} (a : MI h A) (hD : Md h S) (hO : OkS S b) (hs : Sg h g) (hz : Zr 32 (sI (sI (sI (sI (sI (sI (sI (sI g 171 0 (nI 0)) 172 0 (nI 0)) 171 1 (nI 0)) 172 1 (nI 0)) 171 2 (nI 0)) 172 2 (nI 0)) 171 3 (nI 0)) 172 3 (nI 0)) z) : MI (sI (sI (sI (sI (sI z 186 0 (vp_nar .boolean (nI 0))) 186 1 (vp_nar .boolean (nI 0))) 186 2 (vp_nar .boolean (nI 0))) 158 42 (nI 0)) 158 23 (nI (S.1 0 5 0))) (wP A S.1) ∧ Fr 158 186 h (sI (sI (sI (sI (sI z 186 0 (vp_nar .boolean (nI 0))) 186 1 (vp_nar .boolean (nI 0))) 186 2 (vp_nar .boolean (nI 0))) 158 42 (nI 0)) 158 23 (nI (S.1 0 5 0))) := by
  have w4 : S.1 0 2 0 ≤ 4 := hO.1.1.2.2.1
  have t4 : S.1 0 3 0 ≤ 4 := hO.1.1.2.2.2.1
  have f6 : S.1 0 4 0 ≤ 6 := hO.1.1.2.2.2.2.1
  obtain ⟨⟨a1, a2⟩, -, -, ⟨a5, a6⟩, -, -, a12⟩ := a
  obtain ⟨m0, m1, m2, m3, m4, m5, m6, m7, -, -⟩ := hD
  obtain ⟨s0, s1, s2, s3, s4, s5, s6, s7, s8⟩ := hs
  obtain ⟨z0, z1, z2, -⟩ := hz
  have vz : vp_nar .boolean (nI 0) = nI 0 := by decide
  have F : ∀ c k, c ≠ 158 → c ≠ 186 → c ≠ 184 → c ≠ 171 → c ≠ 172 → (sI (sI (sI (sI (sI z 186 0 (vp_nar .boolean (nI 0))) 186 1 (vp_nar .boolean (nI 0))) 186 2 (vp_nar .boolean (nI 0))) 158 42 (nI 0)) 158 23 (nI (S.1 0 5 0))).1 c k = g.1 c k := fun c k y1 y2 y3 y4 y5 => (rI_c y1).trans ((rI_c y1).trans ((rI_c y2).trans ((rI_c y2).trans ((rI_c y2).trans ((congrFun (z0 c y3) k).trans ((rI_c y5).trans ((rI_c y4).trans ((rI_c y5).trans ((rI_c y4).trans ((rI_c y5).trans ((rI_c y4).trans ((rI_c y5).trans ((rI_c y4))))))))))))))
  have E : ∀ k, k ≠ 23 → k ≠ 42 → (sI (sI (sI (sI (sI z 186 0 (vp_nar .boolean (nI 0))) 186 1 (vp_nar .boolean (nI 0))) 186 2 (vp_nar .boolean (nI 0))) 158 42 (nI 0)) 158 23 (nI (S.1 0 5 0))).1 158 k = h.1 158 k := fun k y1 y2 => (rI_k y1).trans ((rI_k y2).trans ((rI_c (by decide)).trans ((rI_c (by decide)).trans ((rI_c (by decide)).trans ((congrFun (z0 158 (by decide)) k).trans ((rI_c (by decide)).trans ((rI_c (by decide)).trans ((rI_c (by decide)).trans ((rI_c (by decide)).trans ((rI_c (by decide)).trans ((rI_c (by decide)).trans ((rI_c (by decide)).trans ((rI_c (by decide)).trans (congrFun (s0 158 (by decide) (by decide) (by decide) (by decide) (by decide) (by decide) (by decide)) k))))))))))))))
  have L : (sI (sI (sI (sI (sI z 186 0 (vp_nar .boolean (nI 0))) 186 1 (vp_nar .boolean (nI 0))) 186 2 (vp_nar .boolean (nI 0))) 158 42 (nI 0)) 158 23 (nI (S.1 0 5 0))).2 = h.2 := z1.trans s1
  refine ⟨⟨⟨fun i hi => (F 159 i (by decide) (by decide) (by decide) (by decide) (by decide)).trans ((congrFun (s0 159 (by decide) (by decide) (by decide) (by decide) (by decide) (by decide) (by decide)) i).trans (a1 i hi)), (E 1 (by decide) (by decide)).trans a2⟩, ⟨fun k hk => (F 160 k (by decide) (by decide) (by decide) (by decide) (by decide)).trans ((s2 k hk).trans (m0 k hk)), rI_s, fun w hw k hk => ?_, fun t ht k hk => ?_, fun t ht w hw k hk => ?_, fun t ht => ⟨?_, fun y => ?_⟩, fun f hf k hk => ?_⟩, fun t ht => ⟨?_, ?_⟩, ⟨(E 8 (by decide) (by decide)).trans a5, (E 9 (by decide) (by decide)).trans a6⟩, ⟨(rI_k (by decide)).trans rI_s, fun y => absurd (show (0 : Nat) = 1 from y) (by decide)⟩, ⟨?_, ?_, fun r hr y => absurd (show (0 : Nat) = 1 from y) (by decide)⟩, (E 35 (by decide) (by decide)).trans a12⟩, ⟨fun c hc => ⟨funext (fun k => (F c k (by omega) (by omega) (by omega) (by omega) (by omega)).trans (congrFun (s0 c (by omega) (by omega) (by omega) (by omega) (by omega) (by omega) (by omega)) k)), congrFun (congrArg Prod.fst L) c⟩, congrArg Prod.snd L⟩⟩
  · have hw' : w < S.1 0 2 0 := hw
    exact (F 164 _ (by decide) (by decide) (by decide) (by decide) (by decide)).trans ((s3 (4 * w + k) (by omega)).trans ((congrArg (h.1 164) (show 16 + (4 * w + k) = 4 * (4 + w) + k by omega)).trans (m1 w hw' k hk)))
  · have ht' : t < S.1 0 3 0 := ht
    exact (F 165 _ (by decide) (by decide) (by decide) (by decide) (by decide)).trans ((s4 (6 * t + k) (by omega)).trans ((congrArg (h.1 165) (show 24 + (6 * t + k) = 6 * (4 + t) + k by omega)).trans (m2 t ht' k hk)))
  · have ht' : t < S.1 0 3 0 := ht
    have y := m3 t (by omega) w hw k hk
    rw [if_pos ht'] at y
    exact (F 166 _ (by decide) (by decide) (by decide) (by decide) (by decide)).trans ((s5 (5 * (4 * t + w) + k) (by omega)).trans ((congrArg (h.1 166) (show 80 + (5 * (4 * t + w) + k) = 80 + 5 * (4 * t + w) + k by omega)).trans y))
  · have ht' : t < S.1 0 3 0 := ht
    have y := m5 t (by omega)
    rw [if_pos ht'] at y
    exact (F 168 _ (by decide) (by decide) (by decide) (by decide) (by decide)).trans ((s6 t (by omega)).trans y)
  · have ht' : t < S.1 0 3 0 := ht
    exact (F 169 _ (by decide) (by decide) (by decide) (by decide) (by decide)).trans ((s7 t (by omega)).trans (m6 t ht' y))
  · have hf' : f < S.1 0 4 0 := hf
    exact (F 170 _ (by decide) (by decide) (by decide) (by decide) (by decide)).trans ((s8 (3 * f + k) (by omega)).trans ((congrArg (h.1 170) (show 18 + (3 * f + k) = 3 * (6 + f) + k by omega)).trans (m7 f hf' k hk)))
  · have ht' : t < S.1 0 3 0 := ht
    have y : t = 0 ∨ t = 1 ∨ t = 2 ∨ t = 3 := by omega
    rcases y with rfl | rfl | rfl | rfl
    · exact (rI_c (by decide)).trans ((rI_c (by decide)).trans ((rI_c (by decide)).trans ((rI_c (by decide)).trans ((rI_c (by decide)).trans ((congrFun (z0 171 (by decide)) _).trans ((rI_c (by decide)).trans ((rI_k (by decide)).trans ((rI_c (by decide)).trans ((rI_k (by decide)).trans ((rI_c (by decide)).trans ((rI_k (by decide)).trans ((rI_c (by decide)).trans (rI_s)))))))))))))
    · exact (rI_c (by decide)).trans ((rI_c (by decide)).trans ((rI_c (by decide)).trans ((rI_c (by decide)).trans ((rI_c (by decide)).trans ((congrFun (z0 171 (by decide)) _).trans ((rI_c (by decide)).trans ((rI_k (by decide)).trans ((rI_c (by decide)).trans ((rI_k (by decide)).trans ((rI_c (by decide)).trans (rI_s)))))))))))
    · exact (rI_c (by decide)).trans ((rI_c (by decide)).trans ((rI_c (by decide)).trans ((rI_c (by decide)).trans ((rI_c (by decide)).trans ((congrFun (z0 171 (by decide)) _).trans ((rI_c (by decide)).trans ((rI_k (by decide)).trans ((rI_c (by decide)).trans (rI_s)))))))))
    · exact (rI_c (by decide)).trans ((rI_c (by decide)).trans ((rI_c (by decide)).trans ((rI_c (by decide)).trans ((rI_c (by decide)).trans ((congrFun (z0 171 (by decide)) _).trans ((rI_c (by decide)).trans (rI_s)))))))
  · have ht' : t < S.1 0 3 0 := ht
    have y : t = 0 ∨ t = 1 ∨ t = 2 ∨ t = 3 := by omega
    rcases y with rfl | rfl | rfl | rfl
    · exact (rI_c (by decide)).trans ((rI_c (by decide)).trans ((rI_c (by decide)).trans ((rI_c (by decide)).trans ((rI_c (by decide)).trans ((congrFun (z0 172 (by decide)) _).trans ((rI_k (by decide)).trans ((rI_c (by decide)).trans ((rI_k (by decide)).trans ((rI_c (by decide)).trans ((rI_k (by decide)).trans ((rI_c (by decide)).trans (rI_s))))))))))))
    · exact (rI_c (by decide)).trans ((rI_c (by decide)).trans ((rI_c (by decide)).trans ((rI_c (by decide)).trans ((rI_c (by decide)).trans ((congrFun (z0 172 (by decide)) _).trans ((rI_k (by decide)).trans ((rI_c (by decide)).trans ((rI_k (by decide)).trans ((rI_c (by decide)).trans (rI_s))))))))))
    · exact (rI_c (by decide)).trans ((rI_c (by decide)).trans ((rI_c (by decide)).trans ((rI_c (by decide)).trans ((rI_c (by decide)).trans ((congrFun (z0 172 (by decide)) _).trans ((rI_k (by decide)).trans ((rI_c (by decide)).trans (rI_s))))))))
    · exact (rI_c (by decide)).trans ((rI_c (by decide)).trans ((rI_c (by decide)).trans ((rI_c (by decide)).trans ((rI_c (by decide)).trans ((congrFun (z0 172 (by decide)) _).trans (rI_s))))))
  · exact (rI_c (by decide)).trans ((rI_c (by decide)).trans ((rI_c (by decide)).trans ((rI_c (by decide)).trans ((rI_c (by decide)).trans (z2 0 (by decide))))))
  · exact all3 ((rI_c (by decide)).trans ((rI_c (by decide)).trans ((rI_k (by decide)).trans ((rI_k (by decide)).trans (rI_s.trans vz))))) ((rI_c (by decide)).trans ((rI_c (by decide)).trans ((rI_k (by decide)).trans (rI_s.trans vz)))) ((rI_c (by decide)).trans ((rI_c (by decide)).trans (rI_s.trans vz)))
