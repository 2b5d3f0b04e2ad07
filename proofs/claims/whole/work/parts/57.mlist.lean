/-! ===== the list: the model ===== -/
theorem Fr.m177 {h h' : PH} (f : Fr 177 177 h h') : MFr h h' := ⟨fun c x y => f.1 c (by omega), fun k _ => f.i (by decide), f.2, fun c x => f.1 c (by omega)⟩
theorem MI.ls {h g g2 : PH} {A : AS} {l : Nat → Nat} (a : MI h A) (m : MFr h g) (f : Fr 178 178 g g2) (h2 : ∀ t, t < aP A 0 3 0 → g2.1 178 t = nI (l t)) : MI (sI g2 158 42 (nI 1)) (wLs A (1, l)) := by
  have a := a.mq m
  generalize hG : sI g2 158 42 (nI 1) = h'
  have fi : ∀ {c k : Nat}, c ≠ 158 → c ≠ 178 → h'.1 c k = g.1 c k := fun x1 x2 => by rw [← hG]; exact (rI_c x1).trans (f.i (by omega))
  have f8 : ∀ {k : Nat}, k ≠ 42 → h'.1 158 k = g.1 158 k := fun hk => by rw [← hG]; exact (rI_k hk).trans (f.i (by decide))
  have fl : ∀ {c k : Nat}, c ≠ 178 → h'.2.1 c k = g.2.1 c k := fun hc => by rw [← hG]; exact f.l (by omega)
  obtain ⟨⟨a1, a2⟩, ⟨p0, p1, p2, p3, p4, p5, p6⟩, a4, ⟨a5, a6⟩, -, ⟨a9, a10, a11⟩, a12⟩ := a
  refine ⟨⟨fun i hi => (fi (by decide) (by decide)).trans (a1 i hi), (f8 (by decide)).trans a2⟩, ⟨fun k hk => (fi (by decide) (by decide)).trans (p0 k hk), (f8 (by decide)).trans p1, fun w hw k hk => (fi (by decide) (by decide)).trans (p2 w hw k hk), fun w hw k hk => (fi (by decide) (by decide)).trans (p3 w hw k hk), fun t ht w hw k hk => (fi (by decide) (by decide)).trans (p4 t ht w hw k hk), fun t ht => ⟨(fi (by decide) (by decide)).trans (p5 t ht).1, fun z => (fi (by decide) (by decide)).trans ((p5 t ht).2 z)⟩, fun w hw k hk => (fi (by decide) (by decide)).trans (p6 w hw k hk)⟩, fun t ht => ⟨(fi (by decide) (by decide)).trans (a4 t ht).1, (fi (by decide) (by decide)).trans (a4 t ht).2⟩, ⟨(f8 (by decide)).trans a5, (f8 (by decide)).trans a6⟩, ⟨by rw [← hG]; exact rI_s, fun _ t ht => by rw [← hG]; exact (rI_c (by decide)).trans (h2 t ht)⟩, ⟨(fi (by decide) (by decide)).trans a9, fun r hr => (fi (by decide) (by decide)).trans (a10 r hr), fun r hr z => ?_⟩, (f8 (by decide)).trans a12⟩
  obtain ⟨⟨e1, e2, e3, e4⟩, e5, e6⟩ := a11 r hr z
  exact ⟨⟨(fi (by decide) (by decide)).trans e1, (fi (by decide) (by decide)).trans e2, (fi (by decide) (by decide)).trans e3, fun t ht => ⟨fun i hi => (fi (by decide) (by decide)).trans ((e4 t ht).1 i hi), (fi (by decide) (by decide)).trans (e4 t ht).2⟩⟩, (fl (by decide)).trans e5, (fi (by decide) (by decide)).trans e6⟩
theorem c_X10_makeScores {h : PH} {A : AS} (hG : GR h.2.2) (hM : MI h A) (hW : WF A) : CtV mX10_makeScores h [pR (some 158)] (fun h' => (∀ j, j < aP A 0 3 0 → ∀ q, q < 41 → h'.2.1 176 (41 * j + q) = sOf A j q) ∧ MFr h h') := by
  have bN := hW.1
  have bk := hW.wk
  have bc := hW.cs
  have bw := hW.wn
  have bt := hW.tn
  have bf := hW.fn
  have hM0 := hM
  have hG0 := hG
  refine Ct.of (L := [some (pR (some 158)), none, none]) rfl rfl (Nat.le_of_ble_eq_true rfl) rfl ?_
  refine J_iconstN (n := 0) dX10_makeScores_0 ?_
  refine J_istore_n (L' := [some (pR (some 158)), some (pI (nI 0)), none]) dX10_makeScores_1 (by decide) rfl ?_
  refine J_L (L' := [some (pR (some 158)), some (pI (nI 0)), none]) rfl ?_
  refine J_forI (α := Unit) (L := fun i1 aa1 => [some (pR (some 158)), some (pI (nI i1)), none]) (fun i1 aa1 h1 => (∀ j, j < i1 → ∀ q, q < 41 → h1.2.1 176 (41 * j + q) = sOf A j q) ∧ MFr h h1) (e := aP A 0 3 0) (fun aa1 h1 hI1 => ?_) (fun i1 aa1 h1 hi1 hI1 ih1 => ?_) 0 (()) _ (by omega) (⟨fun j hj => absurd hj (Nat.not_lt_zero j), MFr.rf⟩)
  · show J _ _ _ _ _ [some (pR (some 158)), some (pI (nI (aP A 0 3 0))), none] _ _ h1
    obtain ⟨hI2, hQ⟩ := hI1
    have hM := hM0.mq hQ
    have hG := hQ.g hG0
    refine J_iload_n dX10_makeScores_2 rfl ?_
    refine J_aload_n dX10_makeScores_3 rfl ?_
    refine J_getR (r := some 160) dX10_makeScores_4 fX10_17 s158 (fun _ => rfl) (g158_12 hG) ?_
    refine J_iconstN (n := 3) dX10_makeScores_7 ?_
    refine J_ialdN dX10_makeScores_8 s160 (by decide) (by omega) ?_
    refine J_cvI ((hM.nm (k := 3) (by decide))) ?_
    refine J_icmp_geN dX10_makeScores_9 (by omega) (by omega) (fun c1 => ?_) (fun c1 => ?_)
    · exact J_retV dX10_makeScores_49 rfl ⟨hI2, hQ⟩
    · exact (show False by omega).elim
  · show J _ _ _ _ _ [some (pR (some 158)), some (pI (nI i1)), none] _ _ h1
    obtain ⟨hI2, hQ⟩ := hI1
    have hM := hM0.mq hQ
    have hG := hQ.g hG0
    refine J_iload_n dX10_makeScores_2 rfl ?_
    refine J_aload_n dX10_makeScores_3 rfl ?_
    refine J_getR (r := some 160) dX10_makeScores_4 fX10_17 s158 (fun _ => rfl) (g158_12 hG) ?_
    refine J_iconstN (n := 3) dX10_makeScores_7 ?_
    refine J_ialdN dX10_makeScores_8 s160 (by decide) (by omega) ?_
    refine J_cvI ((hM.nm (k := 3) (by decide))) ?_
    refine J_icmp_geN dX10_makeScores_9 (by omega) (by omega) (fun c2 => ?_) (fun c2 => ?_)
    · exact (show False by omega).elim
    · refine J_iconstN (n := 0) dX10_makeScores_12 ?_
      refine J_istore_n (L' := [some (pR (some 158)), some (pI (nI i1)), some (pI (nI 0))]) dX10_makeScores_13 (by decide) rfl ?_
      refine J_L (L' := [some (pR (some 158)), some (pI (nI i1)), some (pI (nI 0))]) rfl ?_
      refine J_forI (α := Unit) (L := fun i22 aa22 => [some (pR (some 158)), some (pI (nI i1)), some (pI (nI i22))]) (fun i22 aa22 h22 => (∀ j, j < i1 → ∀ q, q < 41 → h22.2.1 176 (41 * j + q) = sOf A j q) ∧ (∀ q, q < i22 → h22.2.1 176 (41 * i1 + q) = sOf A i1 q) ∧ MFr h h22) (e := 41) (fun aa22 h22 hI22 => ?_) (fun i22 aa22 h22 hi22 hI22 ih22 => ?_) 0 (()) _ (by omega) (⟨hI2, fun j hj => absurd hj (Nat.not_lt_zero j), hQ⟩)
      · show J _ _ _ _ _ [some (pR (some 158)), some (pI (nI i1)), some (pI (nI 41))] _ _ h22
        obtain ⟨hJ2, hJ3, hJ4⟩ := hI22
        have hM := hM0.mq hJ4
        have hG := hJ4.g hG0
        refine J_iload_n dX10_makeScores_14 rfl ?_
        refine J_bipush (x := nI 40) dX10_makeScores_15 (by decide) ?_
        refine J_icmp_gtN dX10_makeScores_17 (by decide) (by decide) (fun c0 => ?_) (fun c0 => absurd c0 (by decide))
        refine J_iincN (n := 1) (L' := [some (pR (some 158)), some (pI (nI (i1 + 1))), some (pI (nI 41))]) dX10_makeScores_43 rfl (by decide) rfl ?_
        refine J_goto dX10_makeScores_46 ?_
        refine J_drop (L' := [some (pR (some 158)), some (pI (nI (i1 + 1))), none]) 2 rfl ?_
        exact ih1 () _ ⟨fun j hj q hq => by
        by_cases z : j = i1
        · subst z; exact hJ3 q hq
        · exact hJ2 j (by omega) q hq, hJ4⟩
      · show J _ _ _ _ _ [some (pR (some 158)), some (pI (nI i1)), some (pI (nI i22))] _ _ h22
        obtain ⟨hJ2, hJ3, hJ4⟩ := hI22
        have hM := hM0.mq hJ4
        have hG := hJ4.g hG0
        refine J_iload_n dX10_makeScores_14 rfl ?_
        refine J_bipush (x := nI 40) dX10_makeScores_15 (by decide) ?_
        refine J_icmp_gtN dX10_makeScores_17 (by omega) (by omega) (fun c3 => ?_) (fun c3 => ?_)
        · exact (show False by omega).elim
        · refine J_aload_n dX10_makeScores_20 rfl ?_
          refine J_getR (r := some 176) dX10_makeScores_21 fX10_71 s158 (fun _ => rfl) (g158_39 hG) ?_
          refine J_bipush (x := nI 41) dX10_makeScores_24 (by decide) ?_
          refine J_iload_n dX10_makeScores_26 rfl ?_
          refine J_imulN dX10_makeScores_27 ?_
          refine J_iload_n dX10_makeScores_28 rfl ?_
          refine J_iaddN dX10_makeScores_29 ?_
          refine J_aload_n dX10_makeScores_30 rfl ?_
          refine J_iload_n dX10_makeScores_31 rfl ?_
          refine J_iload_n dX10_makeScores_32 rfl ?_
          refine J_cVL (ci := 10) (c := 158) (as := [pI (nI i1), pI (nI i22)]) (st := [pI (nI (41 * i1 + i22)), pR (some 176)]) dX10_makeScores_33 lX10_321 okX10_scoreOf vX10_scoreOf s158 (by decide) rfl rfl rfl (Nat.le_of_ble_eq_true rfl) ⟨Nat.le_of_ble_eq_true rfl, Nat.le_of_ble_eq_true rfl⟩ CR.f (c_X10_scoreOf hG (by omega) (hM.tma hW hi1) (hM.nm (by decide)) (by omega) hM.k35 (hM.nm (by decide)) (by omega) (x := fun w => aP A 1 w 0) (fun w hw => ⟨hM.x hw, hW.x hw⟩) (u := aV A i1) (fun w hw => hM.wm hW hi1 (by omega)) (by omega)) (fun v2 g2 e2 => ?_)
          obtain ⟨rfl, f2⟩ := e2
          have hG := f2.g hG
          refine J_lastN dX10_makeScores_36 s176 (by decide) (by omega) ?_
          refine J_iincN (n := 1) (L' := [some (pR (some 158)), some (pI (nI i1)), some (pI (nI (i22 + 1)))]) dX10_makeScores_37 rfl (by decide) rfl ?_
          refine J_goto dX10_makeScores_40 ?_
          exact ih22 () _ ⟨fun j hj q hq => (rL_k (by omega)).trans ((f2.l (by decide) (by decide) (by decide) (by decide)).trans (hJ2 j hj q hq)), fun q hq => by
          by_cases z : q = i22
          · subst z; exact rL_s
          · exact (rL_k (by omega)).trans ((f2.l (by decide) (by decide) (by decide) (by decide)).trans (hJ3 q (by omega))), (hJ4.tr (.of f2)).tr (MFr.sl (by decide) (by decide) (by decide))⟩
theorem c_X10_list_in {h : PH} {A : AS} (hG : GR h.2.2) (hM : MI h A) (hW : WF A) (hn : 0 < aP A 0 2 0) : CtL mX10_list h [pR (some 158)] (fun v h' => v = bT A 0 (aP A 0 1 0) ∧ MP h h' (wLs A (1, chL A))) := by
  have bN := hW.1
  have bk := hW.wk
  have bc := hW.cs
  have bw := hW.wn
  have bt := hW.tn
  have bf := hW.fn
  have hMh := hM
  refine Ct.of (L := [some (pR (some 158)), none, none, none, none, none, none, none, none]) rfl rfl (Nat.le_of_ble_eq_true rfl) rfl ?_
  refine J_aload_n dX10_list_0 rfl ?_
  refine J_cVI (ci := 10) (c := 158) (as := []) (st := []) dX10_list_1 lX10_234 okX10_hasWinters vX10_hasWinters s158 (by decide) rfl rfl rfl (Nat.le_of_ble_eq_true rfl) ⟨Nat.le_of_ble_eq_true rfl, Nat.le_of_ble_eq_true rfl⟩ CR.f (c_X10_hasWinters hG (hM.nm (by decide)) (by omega)) (fun vq1 gq1 eq1 => ?_)
  obtain ⟨rfl, fq1⟩ := eq1
  rw [fq1]
  refine J_if_neB dX10_list_4 (fun c2 => ?_) (fun c2 => ?_)
  · refine J_aload_n dX10_list_11 rfl ?_
    refine J_cVV (ci := 10) (c := 158) (as := []) (st := []) dX10_list_12 lX10_344 okX10_makeScores vX10_makeScores s158 (by decide) rfl rfl rfl (Nat.le_of_ble_eq_true rfl) ⟨Nat.le_of_ble_eq_true rfl, Nat.le_of_ble_eq_true rfl⟩ CR.f (c_X10_makeScores hG hM hW) (fun g0 e0 => ?_)
    obtain ⟨hsc, m0⟩ := e0
    have hG := m0.g hG
    have hM0 := hM.mq m0
    have hM := hM0
    have hG0 := hG
    refine J_aload_n dX10_list_15 rfl ?_
    refine J_getR (r := some 160) dX10_list_16 fX10_17 s158 (fun _ => rfl) (g158_12 hG) ?_
    refine J_iconstN (n := 3) dX10_list_19 ?_
    refine J_ialdN dX10_list_20 s160 (by decide) (by omega) ?_
    refine J_cvI ((hM.nm (k := 3) (by decide))) ?_
    refine J_istore_n (L' := [some (pR (some 158)), some (pI (nI (aP A 0 3 0))), none, none, none, none, none, none, none]) dX10_list_21 (by decide) rfl ?_
    refine J_iconstN (n := 0) dX10_list_22 ?_
    refine J_istore_n (L' := [some (pR (some 158)), some (pI (nI (aP A 0 3 0))), some (pI (nI 0)), none, none, none, none, none, none]) dX10_list_23 (by decide) rfl ?_
    refine J_L (L' := [some (pR (some 158)), some (pI (nI (aP A 0 3 0))), some (pI (nI 0)), none, none, none, none, none, none]) rfl ?_
    refine J_forI (α := Unit) (L := fun i1 aa1 => [some (pR (some 158)), some (pI (nI (aP A 0 3 0))), some (pI (nI i1)), none, none, none, none, none, none]) (fun i1 aa1 h1 => (∀ j, j < i1 → h1.2.1 177 (100 * aP A 0 3 0 + j) = 0) ∧ Fr 177 177 g0 h1) (e := 100) (fun aa1 h1 hI1 => ?_) (fun i1 aa1 h1 hi1 hI1 ih1 => ?_) 0 (()) _ (by omega) (⟨fun j hj => absurd hj (Nat.not_lt_zero j), Fr.rf⟩)
    · show J _ _ _ _ _ [some (pR (some 158)), some (pI (nI (aP A 0 3 0))), some (pI (nI 100)), none, none, none, none, none, none] _ _ h1
      obtain ⟨hI2, hI3⟩ := hI1
      have hM := hM0.mq hI3.m177
      have hG := hI3.g hG0
      refine J_iload_n dX10_list_24 rfl ?_
      refine J_bipush (x := nI 100) dX10_list_25 (by decide) ?_
      refine J_icmp_geN dX10_list_27 (by decide) (by decide) (fun c0 => ?_) (fun c0 => absurd c0 (by decide))
      refine J_iload_n dX10_list_48 rfl ?_
      refine J_iconstN (n := 1) dX10_list_49 ?_
      refine J_isub dX10_list_50 ?_
      refine J_istore_n (L' := [some (pR (some 158)), some (pI (nI (aP A 0 3 0))), some (pI ((nI (aP A 0 3 0)) - (nI 1))), none, none, none, none, none, none]) dX10_list_51 (by decide) rfl ?_
      refine J_L (L' := [some (pR (some 158)), some (pI (nI (aP A 0 3 0))), some (pI (hlp (aP A 0 3 0 - 0))), none, none, none, none, none, none]) (by rw [hlp_sub (by omega)]; rfl) ?_
      refine J_forI (α := Unit) (L := fun i22 aa22 => [some (pR (some 158)), some (pI (nI (aP A 0 3 0))), some (pI (hlp (aP A 0 3 0 - i22))), none, none, none, none, none, none]) (fun i22 aa22 h22 => (∀ t2, aP A 0 3 0 - i22 ≤ t2 → t2 ≤ aP A 0 3 0 → ∀ k, k < 100 → h22.2.1 177 (100 * t2 + k) = bT A t2 k) ∧ Fr 177 177 g0 h22) (e := aP A 0 3 0) (fun aa22 h22 hI22 => ?_) (fun i22 aa22 h22 hi22 hI22 ih22 => ?_) 0 (()) _ (by omega) (⟨fun t2 h1 h2 k hk => by rw [show t2 = aP A 0 3 0 by omega, bT_T (Nat.le_refl _)]; exact hI2 k hk, hI3⟩)
      · show J _ _ _ _ _ [some (pR (some 158)), some (pI (nI (aP A 0 3 0))), some (pI (hlp (aP A 0 3 0 - (aP A 0 3 0)))), none, none, none, none, none, none] _ _ h22
        obtain ⟨hJ2, hJ3⟩ := hI22
        have hM := hM0.mq hJ3.m177
        have hG := hJ3.g hG0
        have hz : hlp (aP A 0 3 0 - aP A 0 3 0) < 0 := (hlp_lt (by omega)).mpr (by omega)
        have hB : ∀ t2, t2 ≤ aP A 0 3 0 → ∀ k, k < 100 → h22.2.1 177 (100 * t2 + k) = bT A t2 k := fun t2 h2 k hk => hJ2 t2 (by omega) h2 k hk
        have hS : ∀ t2, t2 < aP A 0 3 0 → ∀ q, q < 41 → h22.2.1 176 (41 * t2 + q) = sOf A t2 q := fun t2 h2 q hq => (hJ3.l (by decide)).trans (hsc t2 h2 q hq)
        refine J_iload_n dX10_list_52 rfl ?_
        refine J_if_lt dX10_list_53 (fun c3 => ?_) (fun c3 => ?_)
        · refine J_aload_n dX10_list_198 rfl ?_
          refine J_getR (r := some 160) dX10_list_199 fX10_17 s158 (fun _ => rfl) (g158_12 hG) ?_
          refine J_iconstN (n := 1) dX10_list_202 ?_
          refine J_ialdN dX10_list_203 s160 (by decide) (by omega) ?_
          refine J_cvI ((hM.nm (k := 1) (by decide))) ?_
          refine J_istore_n (L' := [some (pR (some 158)), some (pI (nI (aP A 0 3 0))), some (pI (nI (aP A 0 1 0))), none, none, none, none, none, none]) dX10_list_204 (by decide) rfl ?_
          refine J_iconstN (n := 0) dX10_list_205 ?_
          refine J_istore_n (L' := [some (pR (some 158)), some (pI (nI (aP A 0 3 0))), some (pI (nI (aP A 0 1 0))), some (pI (nI 0)), none, none, none, none, none]) dX10_list_206 (by decide) rfl ?_
          refine J_L (L' := [some (pR (some 158)), some (pI (nI (aP A 0 3 0))), some (pI (nI (csL A 0))), some (pI (nI 0)), none, none, none, none, none]) rfl ?_
          have hM2 := hM
          have hG2 := hG
          refine J_forI (α := Unit) (L := fun i66 aa66 => [some (pR (some 158)), some (pI (nI (aP A 0 3 0))), some (pI (nI (csL A i66))), some (pI (nI i66)), none, none, none, none, none]) (fun i66 aa66 h66 => (∀ j, j < i66 → h66.1 178 j = nI (chL A j)) ∧ Fr 178 178 h22 h66) (e := aP A 0 3 0) (fun aa66 h66 hI66 => ?_) (fun i66 aa66 h66 hi66 hI66 ih66 => ?_) 0 (()) _ (by omega) (⟨fun j hj => absurd hj (Nat.not_lt_zero j), Fr.rf⟩)
          · show J _ _ _ _ _ [some (pR (some 158)), some (pI (nI (aP A 0 3 0))), some (pI (nI (csL A (aP A 0 3 0)))), some (pI (nI (aP A 0 3 0))), none, none, none, none, none] _ _ h66
            obtain ⟨hL2, hL3⟩ := hI66
            have hG := hL3.g hG2
            refine J_iload_n dX10_list_207 rfl ?_
            refine J_iload_n dX10_list_208 rfl ?_
            refine J_icmp_geN dX10_list_209 (by omega) (by omega) (fun c4 => ?_) (fun c4 => ?_)
            · refine J_aload_n dX10_list_298 rfl ?_
              refine J_iconstN (n := 1) dX10_list_299 ?_
              refine J_putI dX10_list_300 fX10_189 s158 rfl rfl rfl (fun _ _ => rfl) ?_
              refine J_aload_n dX10_list_303 rfl ?_
              refine J_getR (r := some 177) dX10_list_304 fX10_74 s158 (fun _ => rfl) ((xRI).trans (g158_40 hG)) ?_
              refine J_aload_n dX10_list_307 rfl ?_
              refine J_getR (r := some 160) dX10_list_308 fX10_17 s158 (fun _ => rfl) ((xRI).trans (g158_12 hG)) ?_
              refine J_iconstN (n := 1) dX10_list_311 ?_
              refine J_ialdN dX10_list_312 s160 (by decide) (by omega) ?_
              refine J_cvI ((rI_c (by decide)).trans (((hL3.i (by decide)).trans (hM2.nm (k := 1) (by decide))))) ?_
              refine J_laldN dX10_list_313 s177 (by decide) (by omega) ?_
              refine J_cvL ((xLI).trans (((hL3.l (by decide)).trans (show h22.2.1 177 (aP A 0 1 0) = bT A 0 (aP A 0 1 0) from (by have z := hB 0 (Nat.zero_le _) (aP A 0 1 0) (by omega); rw [Nat.mul_zero, Nat.zero_add] at z; exact z))))) ?_
              exact J_retL dX10_list_314 rfl ⟨rfl, MI.ls hMh (m0.tr hJ3.m177) hL3 hL2, ((m0.tr hJ3.m177).fr.tr (hL3.mo (by decide) (by decide))).tr (Fr.sI (by decide) (by decide))⟩
            · exact (show False by omega).elim
          · show J _ _ _ _ _ [some (pR (some 158)), some (pI (nI (aP A 0 3 0))), some (pI (nI (csL A i66))), some (pI (nI i66)), none, none, none, none, none] _ _ h66
            obtain ⟨hL2, hL3⟩ := hI66
            have hG := hL3.g hG2
            have bcs := csL_b (A := A) i66
            have btr := (hW.t hi66).1
            have hch := chL_le A i66
            have hcr : chL A i66 * aP A 2 i66 0 ≤ csL A i66 := ((qm_le (by omega)).mp (bst_le _ _)).2
            have hcr2 : aP A 2 i66 0 * chL A i66 ≤ csL A i66 := by rw [Nat.mul_comm]; exact hcr
            have hM : ∀ {k : Nat}, k < 6 → h66.1 165 (6 * i66 + k) = nI (aP A 2 i66 k) := fun hk => (hL3.i (by decide)).trans (hM2.t hi66 hk)
            refine J_iload_n dX10_list_207 rfl ?_
            refine J_iload_n dX10_list_208 rfl ?_
            refine J_icmp_geN dX10_list_209 (by omega) (by omega) (fun c5 => ?_) (fun c5 => ?_)
            · exact (show False by omega).elim
            · refine J_iconstN (n := 0) dX10_list_212 ?_
              refine J_istore (L' := [some (pR (some 158)), some (pI (nI (aP A 0 3 0))), some (pI (nI (csL A i66))), some (pI (nI i66)), some (pI (nI 0)), none, none, none, none]) dX10_list_213 (by decide) rfl ?_
              refine J_L (L' := [some (pR (some 158)), some (pI (nI (aP A 0 3 0))), some (pI (nI (csL A i66))), some (pI (nI i66)), some (pI (nI 0)), none, none, none, none]) rfl ?_
              refine J_forI (α := Unit) (L := fun i55 aa55 => [some (pR (some 158)), some (pI (nI (aP A 0 3 0))), some (pI (nI (csL A i66))), some (pI (nI i66)), some (pI (nI i55)), none, none, none, none]) (fun i55 aa55 h55 => h66 = h55 ∧ i55 ≤ chL A i66) (e := chL A i66 + 1) (fun aa55 h55 hI55 => absurd hI55.2 (by omega)) (fun i55 aa55 h55 hi55 hI55 ih55 => ?_) 0 () _ (by omega) (⟨rfl, Nat.zero_le _⟩)
              show J _ _ _ _ _ [some (pR (some 158)), some (pI (nI (aP A 0 3 0))), some (pI (nI (csL A i66))), some (pI (nI i66)), some (pI (nI i55)), none, none, none, none] _ _ h55
              obtain ⟨hI9, hI8⟩ := hI55
              subst hI9
              have hm := (qm_le (by omega)).mp (show i55 ≤ qm (aP A 2 i66 0) (csL A i66) from Nat.le_trans hI8 (bst_le _ _))
              have hm3 : aP A 2 i66 0 * i55 ≤ csL A i66 := by rw [Nat.mul_comm]; exact hm.2
              refine J_aload_n dX10_list_215 rfl ?_
              refine J_getR (r := some 176) dX10_list_216 fX10_71 s158 (fun _ => rfl) (g158_39 hG) ?_
              refine J_bipush (x := nI 41) dX10_list_219 (by decide) ?_
              refine J_iload_n dX10_list_221 rfl ?_
              refine J_imulN dX10_list_222 ?_
              refine J_iload dX10_list_223 rfl ?_
              refine J_iaddN dX10_list_225 ?_
              refine J_laldN dX10_list_226 s176 (by decide) (by omega) ?_
              refine J_cvL (((hL3.l (by decide)).trans (hS i66 hi66 i55 (by omega)))) ?_
              refine J_aload_n dX10_list_227 rfl ?_
              refine J_getR (r := some 177) dX10_list_228 fX10_74 s158 (fun _ => rfl) (g158_40 hG) ?_
              refine J_bipush (x := nI 100) dX10_list_231 (by decide) ?_
              refine J_iload_n dX10_list_233 rfl ?_
              refine J_iconstN (n := 1) dX10_list_234 ?_
              refine J_iaddN dX10_list_235 ?_
              refine J_imulN dX10_list_236 ?_
              refine J_iload_n dX10_list_237 rfl ?_
              refine J_iaddN dX10_list_238 ?_
              refine J_aload_n dX10_list_239 rfl ?_
              refine J_iload_n dX10_list_240 rfl ?_
              refine J_iconstN (n := 0) dX10_list_241 ?_
              refine J_cVI (ci := 10) (c := 158) (as := [pI (nI i66), pI (nI 0)]) (st := [pI (nI (100 * (i66 + 1) + csL A i66)), pR (some 177), pL (sOf A i66 i55)]) dX10_list_242 lX10_246 okX10_of vX10_of s158 (by decide) rfl rfl rfl (Nat.le_of_ble_eq_true rfl) ⟨Nat.le_of_ble_eq_true rfl, Nat.le_of_ble_eq_true rfl⟩ CR.f (c_X10_of hG (by omega) (by decide) (hM (by decide))) (fun vq6 gq6 eq6 => ?_)
              obtain ⟨rfl, fq6⟩ := eq6
              rw [fq6]
              refine J_iload dX10_list_245 rfl ?_
              refine J_imulN dX10_list_247 ?_
              refine J_isubN dX10_list_248 (by omega) ?_
              refine J_laldN dX10_list_249 s177 (by decide) (by omega) ?_
              refine J_cvL (((hL3.l (by decide)).trans (show h22.2.1 177 (100 * (i66 + 1) + csL A i66 - aP A 2 i66 0 * i55) = bT A (i66 + 1) (csL A i66 - aP A 2 i66 0 * i55) from (by rw [show 100 * (i66 + 1) + csL A i66 - aP A 2 i66 0 * i55 = 100 * (i66 + 1) + (csL A i66 - aP A 2 i66 0 * i55) by omega]; exact hB (i66 + 1) (by omega) _ (by omega))))) ?_
              refine J_ladd dX10_list_250 ?_
              refine J_cvL (y := lfT A i66 (csL A i66) i55) (by unfold lfT; rw [Nat.mul_comm (aP A 2 i66 0)]) ?_
              refine J_aload_n dX10_list_251 rfl ?_
              refine J_getR (r := some 177) dX10_list_252 fX10_74 s158 (fun _ => rfl) (g158_40 hG) ?_
              refine J_bipush (x := nI 100) dX10_list_255 (by decide) ?_
              refine J_iload_n dX10_list_257 rfl ?_
              refine J_imulN dX10_list_258 ?_
              refine J_iload_n dX10_list_259 rfl ?_
              refine J_iaddN dX10_list_260 ?_
              refine J_laldN dX10_list_261 s177 (by decide) (by omega) ?_
              refine J_cvL (((hL3.l (by decide)).trans ((hB i66 (by omega) _ (by omega)).trans (show _ = lfT A i66 (csL A i66) (chL A i66) from bT_eq hi66)))) ?_
              refine J_lcmp dX10_list_262 ?_
              refine J_lif_eq dX10_list_263 (fun d9 => ?_) (fun d9 => ?_)
              · have hk : i55 = chL A i66 := by
                  by_cases z : i55 < chL A i66
                  · have y := bst_lt (f := lfT A i66 (csL A i66)) (qm (aP A 2 i66 0) (csL A i66)) i55 z
                    have y2 : lfT A i66 (csL A i66) i55 < lfT A i66 (csL A i66) (chL A i66) := y
                    rw [d9] at y2
                    exact absurd y2 Int64.lt_irrefl
                  · omega
                refine J_L (L' := [some (pR (some 158)), some (pI (nI (aP A 0 3 0))), some (pI (nI (csL A i66))), some (pI (nI i66)), some (pI (nI (chL A i66))), none, none, none, none]) (by rw [hk]) ?_
                refine J_aload_n dX10_list_272 rfl ?_
                refine J_getR (r := some 178) dX10_list_273 fX10_77 s158 (fun _ => rfl) (g158_41 hG) ?_
                refine J_iload_n dX10_list_276 rfl ?_
                refine J_iload dX10_list_277 rfl ?_
                refine J_iastN dX10_list_279 s178 (by decide) (by omega) ?_
                refine J_iload_n dX10_list_280 rfl ?_
                refine J_aload_n dX10_list_281 rfl ?_
                refine J_iload_n dX10_list_282 rfl ?_
                refine J_iconstN (n := 0) dX10_list_283 ?_
                refine J_cVI (ci := 10) (c := 158) (as := [pI (nI i66), pI (nI 0)]) (st := [pI (nI (csL A i66))]) dX10_list_284 lX10_246 okX10_of vX10_of s158 (by decide) rfl rfl rfl (Nat.le_of_ble_eq_true rfl) ⟨Nat.le_of_ble_eq_true rfl, Nat.le_of_ble_eq_true rfl⟩ CR.f (c_X10_of hG (by omega) (by decide) (hM (by decide))) (fun vq8 gq8 eq8 => ?_)
                obtain ⟨rfl, fq8⟩ := eq8
                rw [fq8]
                refine J_iload dX10_list_287 rfl ?_
                refine J_imulN dX10_list_289 ?_
                refine J_isubN dX10_list_290 (by omega) ?_
                refine J_istore_n (L' := [some (pR (some 158)), some (pI (nI (aP A 0 3 0))), some (pI (nI (csL A i66 - aP A 2 i66 0 * chL A i66))), some (pI (nI i66)), some (pI (nI (chL A i66))), none, none, none, none]) dX10_list_291 (by decide) rfl ?_
                refine J_iincN (n := 1) (L' := [some (pR (some 158)), some (pI (nI (aP A 0 3 0))), some (pI (nI (csL A i66 - aP A 2 i66 0 * chL A i66))), some (pI (nI (i66 + 1))), some (pI (nI (chL A i66))), none, none, none, none]) dX10_list_292 rfl (by decide) rfl ?_
                refine J_goto dX10_list_295 ?_
                refine J_drop (L' := [some (pR (some 158)), some (pI (nI (aP A 0 3 0))), some (pI (nI (csL A i66 - aP A 2 i66 0 * chL A i66))), some (pI (nI (i66 + 1))), none, none, none, none, none]) 4 rfl ?_
                refine J_L (L' := [some (pR (some 158)), some (pI (nI (aP A 0 3 0))), some (pI (nI (csL A (i66 + 1)))), some (pI (nI (i66 + 1))), none, none, none, none, none]) (by rw [csL_1, Nat.mul_comm]) ?_
                exact ih66 () _ ⟨fun j hj => by
          by_cases q : j = i66
          · subst q; exact rI_s
          · exact (rI_k q).trans (hL2 j (by omega)), hL3.tr (Fr.sI (by decide) (by decide))⟩
              · refine J_iincN (n := 1) (L' := [some (pR (some 158)), some (pI (nI (aP A 0 3 0))), some (pI (nI (csL A i66))), some (pI (nI i66)), some (pI (nI (i55 + 1))), none, none, none, none]) dX10_list_266 rfl (by decide) rfl ?_
                refine J_goto dX10_list_269 ?_
                exact ih55 () _ ⟨rfl, by have hne : i55 ≠ chL A i66 := (fun z => d9 (by rw [z])); omega⟩
        · exact absurd hz c3
      · show J _ _ _ _ _ [some (pR (some 158)), some (pI (nI (aP A 0 3 0))), some (pI (hlp (aP A 0 3 0 - i22))), none, none, none, none, none, none] _ _ h22
        obtain ⟨hJ2, hJ3⟩ := hI22
        have hM := hM0.mq hJ3.m177
        have hG := hJ3.g hG0
        obtain ⟨t, et⟩ : ∃ t, aP A 0 3 0 - i22 = t + 1 := ⟨aP A 0 3 0 - i22 - 1, by omega⟩
        have ht : t < aP A 0 3 0 := by omega
        have btr := (hW.t ht).1
        rw [et]
        refine J_L (L' := [some (pR (some 158)), some (pI (nI (aP A 0 3 0))), some (pI (nI t)), none, none, none, none, none, none]) rfl ?_
        refine J_iload_n dX10_list_52 rfl ?_
        refine J_if_ltN dX10_list_53 (by omega) ?_
        refine J_iconstN (n := 0) dX10_list_56 ?_
        refine J_istore_n (L' := [some (pR (some 158)), some (pI (nI (aP A 0 3 0))), some (pI (nI t)), some (pI (nI 0)), none, none, none, none, none]) dX10_list_57 (by decide) rfl ?_
        refine J_L (L' := [some (pR (some 158)), some (pI (nI (aP A 0 3 0))), some (pI (nI t)), some (pI (nI 0)), none, none, none, none, none]) rfl ?_
        refine J_forI (α := Unit) (L := fun i33 aa33 => [some (pR (some 158)), some (pI (nI (aP A 0 3 0))), some (pI (nI t)), some (pI (nI i33)), none, none, none, none, none]) (fun i33 aa33 h33 => (∀ k, k < i33 → h33.2.1 177 (100 * t + k) = bT A t k) ∧ (∀ t2, t < t2 → t2 ≤ aP A 0 3 0 → ∀ k, k < 100 → h33.2.1 177 (100 * t2 + k) = bT A t2 k) ∧ Fr 177 177 g0 h33) (e := 100) (fun aa33 h33 hI33 => ?_) (fun i33 aa33 h33 hi33 hI33 ih33 => ?_) 0 (()) _ (by omega) (⟨fun j hj => absurd hj (Nat.not_lt_zero j), fun t2 h1 h2 k hk => hJ2 t2 (by omega) h2 k hk, hJ3⟩)
        · show J _ _ _ _ _ [some (pR (some 158)), some (pI (nI (aP A 0 3 0))), some (pI (nI t)), some (pI (nI 100)), none, none, none, none, none] _ _ h33
          obtain ⟨hK2, hK3, hK4⟩ := hI33
          have hM := hM0.mq hK4.m177
          have hG := hK4.g hG0
          refine J_iload_n dX10_list_58 rfl ?_
          refine J_bipush (x := nI 100) dX10_list_59 (by decide) ?_
          refine J_icmp_geN dX10_list_61 (by decide) (by decide) (fun c0 => ?_) (fun c0 => absurd c0 (by decide))
          refine J_iinc (L' := [some (pR (some 158)), some (pI (nI (aP A 0 3 0))), some (pI (nI t + (-1))), some (pI (nI 100)), none, none, none, none, none]) dX10_list_192 rfl rfl (by decide) rfl ?_
          refine J_goto dX10_list_195 ?_
          refine J_drop (L' := [some (pR (some 158)), some (pI (nI (aP A 0 3 0))), some (pI (nI t + (-1))), none, none, none, none, none, none]) 3 rfl ?_
          refine J_L (L' := [some (pR (some 158)), some (pI (nI (aP A 0 3 0))), some (pI (hlp t)), none, none, none, none, none, none]) (by rw [show nI t + -1 = hlp t from hlp_dec]) ?_
          have K := ih22 () _ ⟨fun t2 h1 h2 k hk => by
        by_cases q : t2 = t
        · subst q; exact hK2 k hk
        · exact hK3 t2 (by omega) h2 k hk, hK4⟩
          rw [show aP A 0 3 0 - (i22 + 1) = t by omega] at K
          exact K
        · show J _ _ _ _ _ [some (pR (some 158)), some (pI (nI (aP A 0 3 0))), some (pI (nI t)), some (pI (nI i33)), none, none, none, none, none] _ _ h33
          obtain ⟨hK2, hK3, hK4⟩ := hI33
          have hM := hM0.mq hK4.m177
          have hG := hK4.g hG0
          have hS : ∀ q, q < 41 → h33.2.1 176 (41 * t + q) = sOf A t q := fun q hq => (hK4.l (by decide)).trans (hsc t ht q hq)
          have hN : ∀ k, k < 100 → h33.2.1 177 (100 * (t + 1) + k) = bT A (t + 1) k := fun k hk => hK3 (t + 1) (by omega) (by omega) k hk
          have h40 := qm_40 (aP A 2 t 0) i33
          refine J_iload_n dX10_list_58 rfl ?_
          refine J_bipush (x := nI 100) dX10_list_59 (by decide) ?_
          refine J_icmp_geN dX10_list_61 (by omega) (by omega) (fun c9 => ?_) (fun c9 => ?_)
          · exact (show False by omega).elim
          · refine J_aload_n dX10_list_64 rfl ?_
            refine J_getR (r := some 176) dX10_list_65 fX10_71 s158 (fun _ => rfl) (g158_39 hG) ?_
            refine J_bipush (x := nI 41) dX10_list_68 (by decide) ?_
            refine J_iload_n dX10_list_70 rfl ?_
            refine J_imulN dX10_list_71 ?_
            refine J_laldN dX10_list_72 s176 (by decide) (by omega) ?_
            refine J_cvL ((show _ = sOf A t 0 from hS 0 (by decide))) ?_
            refine J_aload_n dX10_list_73 rfl ?_
            refine J_getR (r := some 177) dX10_list_74 fX10_74 s158 (fun _ => rfl) (g158_40 hG) ?_
            refine J_bipush (x := nI 100) dX10_list_77 (by decide) ?_
            refine J_iload_n dX10_list_79 rfl ?_
            refine J_iconstN (n := 1) dX10_list_80 ?_
            refine J_iaddN dX10_list_81 ?_
            refine J_imulN dX10_list_82 ?_
            refine J_iload_n dX10_list_83 rfl ?_
            refine J_iaddN dX10_list_84 ?_
            refine J_laldN dX10_list_85 s177 (by decide) (by omega) ?_
            refine J_cvL ((hN i33 hi33)) ?_
            refine J_ladd dX10_list_86 ?_
            refine J_cvL (y := lfT A t i33 (bst (lfT A t i33) 0)) (by show _ = sOf A t 0 + bT A (t + 1) (i33 - 0 * aP A 2 t 0); rw [Nat.zero_mul, Nat.sub_zero]) ?_
            refine J_lstore (L' := [some (pR (some 158)), some (pI (nI (aP A 0 3 0))), some (pI (nI t)), some (pI (nI i33)), some (pL (lfT A t i33 (bst (lfT A t i33) 0))), none, none, none, none]) dX10_list_87 (by decide) rfl ?_
            refine J_iconstN (n := 1) dX10_list_89 ?_
            refine J_istore (L' := [some (pR (some 158)), some (pI (nI (aP A 0 3 0))), some (pI (nI t)), some (pI (nI i33)), some (pL (lfT A t i33 (bst (lfT A t i33) 0))), none, some (pI (nI 1)), none, none]) dX10_list_90 (by decide) rfl ?_
            refine J_L (L' := [some (pR (some 158)), some (pI (nI (aP A 0 3 0))), some (pI (nI t)), some (pI (nI i33)), some (pL (lfT A t i33 (bst (lfT A t i33) 0))), none, some (pI (nI (0 + 1))), none, none]) rfl ?_
            refine J_for (L := fun i44 => [some (pR (some 158)), some (pI (nI (aP A 0 3 0))), some (pI (nI t)), some (pI (nI i33)), some (pL (lfT A t i33 (bst (lfT A t i33) i44))), none, some (pI (nI (i44 + 1))), none, none]) (hf := fun i44 => h33) (e := qm (aP A 2 t 0) i33) ?_ (fun i44 hi44 ih44 => ?_) 0 (by omega)
            · show J _ _ _ _ _ [some (pR (some 158)), some (pI (nI (aP A 0 3 0))), some (pI (nI t)), some (pI (nI i33)), some (pL (lfT A t i33 (bst (lfT A t i33) (qm (aP A 2 t 0) i33)))), none, some (pI (nI (qm (aP A 2 t 0) i33 + 1))), none, none] _ _ (h33)
              have hx : ¬ (qm (aP A 2 t 0) i33 + 1 ≤ 40 ∧ aP A 2 t 0 * (qm (aP A 2 t 0) i33 + 1) ≤ i33) := fun z => absurd ((qm_le (r := aP A 2 t 0) (c := i33) (k := qm (aP A 2 t 0) i33 + 1) (by omega)).mpr ⟨z.1, by rw [Nat.mul_comm]; exact z.2⟩) (by omega)
              have hmb : aP A 2 t 0 * (qm (aP A 2 t 0) i33 + 1) ≤ 9 * 41 := Nat.mul_le_mul (by omega) (by omega)
              refine J_iload dX10_list_92 rfl ?_
              refine J_bipush (x := nI 40) dX10_list_94 (by decide) ?_
              refine J_icmp_gtN dX10_list_96 (by omega) (by omega) (fun c10 => ?_) (fun c10 => ?_)
              · refine J_aload_n dX10_list_173 rfl ?_
                refine J_getR (r := some 177) dX10_list_174 fX10_74 s158 (fun _ => rfl) (g158_40 hG) ?_
                refine J_bipush (x := nI 100) dX10_list_177 (by decide) ?_
                refine J_iload_n dX10_list_179 rfl ?_
                refine J_imulN dX10_list_180 ?_
                refine J_iload_n dX10_list_181 rfl ?_
                refine J_iaddN dX10_list_182 ?_
                refine J_lload dX10_list_183 rfl ?_
                refine J_cvL (y := bT A t i33) (bT_eq ht).symm ?_
                refine J_lastN dX10_list_185 s177 (by decide) (by omega) ?_
                refine J_iincN (n := 1) (L' := [some (pR (some 158)), some (pI (nI (aP A 0 3 0))), some (pI (nI t)), some (pI (nI (i33 + 1))), some (pL (lfT A t i33 (bst (lfT A t i33) (qm (aP A 2 t 0) i33)))), none, some (pI (nI (qm (aP A 2 t 0) i33 + 1))), none, none]) dX10_list_186 rfl (by decide) rfl ?_
                refine J_goto dX10_list_189 ?_
                refine J_drop (L' := [some (pR (some 158)), some (pI (nI (aP A 0 3 0))), some (pI (nI t)), some (pI (nI (i33 + 1))), none, none, some (pI (nI (qm (aP A 2 t 0) i33 + 1))), none, none]) 4 rfl ?_
                refine J_drop (L' := [some (pR (some 158)), some (pI (nI (aP A 0 3 0))), some (pI (nI t)), some (pI (nI (i33 + 1))), none, none, none, none, none]) 6 rfl ?_
                exact ih33 () _ ⟨fun k hk => by
            by_cases q : k = i33
            · subst q; exact rL_s
            · exact (rL_k (by omega)).trans (hK2 k (by omega)), fun t2 h1 h2 k hk => (rL_k (by omega)).trans (hK3 t2 h1 h2 k hk), hK4.tr (Fr.sL (by decide) (by decide))⟩
              · refine J_aload_n dX10_list_99 rfl ?_
                refine J_iload_n dX10_list_100 rfl ?_
                refine J_iconstN (n := 0) dX10_list_101 ?_
                refine J_cVI (ci := 10) (c := 158) (as := [pI (nI t), pI (nI 0)]) (st := []) dX10_list_102 lX10_246 okX10_of vX10_of s158 (by decide) rfl rfl rfl (Nat.le_of_ble_eq_true rfl) ⟨Nat.le_of_ble_eq_true rfl, Nat.le_of_ble_eq_true rfl⟩ CR.f (c_X10_of hG (by omega) (by decide) (hM.t ht (by decide))) (fun vq11 gq11 eq11 => ?_)
                obtain ⟨rfl, fq11⟩ := eq11
                rw [fq11]
                refine J_iload dX10_list_105 rfl ?_
                refine J_imulN dX10_list_107 ?_
                refine J_iload_n dX10_list_108 rfl ?_
                refine J_icmp_gtN dX10_list_109 (by omega) (by omega) (fun c12 => ?_) (fun c12 => ?_)
                · refine J_aload_n dX10_list_173 rfl ?_
                  refine J_getR (r := some 177) dX10_list_174 fX10_74 s158 (fun _ => rfl) (g158_40 hG) ?_
                  refine J_bipush (x := nI 100) dX10_list_177 (by decide) ?_
                  refine J_iload_n dX10_list_179 rfl ?_
                  refine J_imulN dX10_list_180 ?_
                  refine J_iload_n dX10_list_181 rfl ?_
                  refine J_iaddN dX10_list_182 ?_
                  refine J_lload dX10_list_183 rfl ?_
                  refine J_cvL (y := bT A t i33) (bT_eq ht).symm ?_
                  refine J_lastN dX10_list_185 s177 (by decide) (by omega) ?_
                  refine J_iincN (n := 1) (L' := [some (pR (some 158)), some (pI (nI (aP A 0 3 0))), some (pI (nI t)), some (pI (nI (i33 + 1))), some (pL (lfT A t i33 (bst (lfT A t i33) (qm (aP A 2 t 0) i33)))), none, some (pI (nI (qm (aP A 2 t 0) i33 + 1))), none, none]) dX10_list_186 rfl (by decide) rfl ?_
                  refine J_goto dX10_list_189 ?_
                  refine J_drop (L' := [some (pR (some 158)), some (pI (nI (aP A 0 3 0))), some (pI (nI t)), some (pI (nI (i33 + 1))), none, none, some (pI (nI (qm (aP A 2 t 0) i33 + 1))), none, none]) 4 rfl ?_
                  refine J_drop (L' := [some (pR (some 158)), some (pI (nI (aP A 0 3 0))), some (pI (nI t)), some (pI (nI (i33 + 1))), none, none, none, none, none]) 6 rfl ?_
                  exact ih33 () _ ⟨fun k hk => by
            by_cases q : k = i33
            · subst q; exact rL_s
            · exact (rL_k (by omega)).trans (hK2 k (by omega)), fun t2 h1 h2 k hk => (rL_k (by omega)).trans (hK3 t2 h1 h2 k hk), hK4.tr (Fr.sL (by decide) (by decide))⟩
                · exact (show False by omega).elim
            · show J _ _ _ _ _ [some (pR (some 158)), some (pI (nI (aP A 0 3 0))), some (pI (nI t)), some (pI (nI i33)), some (pL (lfT A t i33 (bst (lfT A t i33) i44))), none, some (pI (nI (i44 + 1))), none, none] _ _ (h33)
              have hm := (qm_le (by omega)).mp (show i44 + 1 ≤ qm (aP A 2 t 0) i33 by omega)
              have hm3 : aP A 2 t 0 * (i44 + 1) ≤ i33 := by rw [Nat.mul_comm]; exact hm.2
              refine J_iload dX10_list_92 rfl ?_
              refine J_bipush (x := nI 40) dX10_list_94 (by decide) ?_
              refine J_icmp_gtN dX10_list_96 (by omega) (by omega) (fun c13 => ?_) (fun c13 => ?_)
              · exact (show False by omega).elim
              · refine J_aload_n dX10_list_99 rfl ?_
                refine J_iload_n dX10_list_100 rfl ?_
                refine J_iconstN (n := 0) dX10_list_101 ?_
                refine J_cVI (ci := 10) (c := 158) (as := [pI (nI t), pI (nI 0)]) (st := []) dX10_list_102 lX10_246 okX10_of vX10_of s158 (by decide) rfl rfl rfl (Nat.le_of_ble_eq_true rfl) ⟨Nat.le_of_ble_eq_true rfl, Nat.le_of_ble_eq_true rfl⟩ CR.f (c_X10_of hG (by omega) (by decide) (hM.t ht (by decide))) (fun vq14 gq14 eq14 => ?_)
                obtain ⟨rfl, fq14⟩ := eq14
                rw [fq14]
                refine J_iload dX10_list_105 rfl ?_
                refine J_imulN dX10_list_107 ?_
                refine J_iload_n dX10_list_108 rfl ?_
                refine J_icmp_gtN dX10_list_109 (by omega) (by omega) (fun c15 => ?_) (fun c15 => ?_)
                · exact (show False by omega).elim
                · refine J_aload_n dX10_list_112 rfl ?_
                  refine J_getR (r := some 176) dX10_list_113 fX10_71 s158 (fun _ => rfl) (g158_39 hG) ?_
                  refine J_bipush (x := nI 41) dX10_list_116 (by decide) ?_
                  refine J_iload_n dX10_list_118 rfl ?_
                  refine J_imulN dX10_list_119 ?_
                  refine J_iload dX10_list_120 rfl ?_
                  refine J_iaddN dX10_list_122 ?_
                  refine J_laldN dX10_list_123 s176 (by decide) (by omega) ?_
                  refine J_cvL ((hS (i44 + 1) (by omega))) ?_
                  refine J_aload_n dX10_list_124 rfl ?_
                  refine J_getR (r := some 177) dX10_list_125 fX10_74 s158 (fun _ => rfl) (g158_40 hG) ?_
                  refine J_bipush (x := nI 100) dX10_list_128 (by decide) ?_
                  refine J_iload_n dX10_list_130 rfl ?_
                  refine J_iconstN (n := 1) dX10_list_131 ?_
                  refine J_iaddN dX10_list_132 ?_
                  refine J_imulN dX10_list_133 ?_
                  refine J_iload_n dX10_list_134 rfl ?_
                  refine J_iaddN dX10_list_135 ?_
                  refine J_aload_n dX10_list_136 rfl ?_
                  refine J_iload_n dX10_list_137 rfl ?_
                  refine J_iconstN (n := 0) dX10_list_138 ?_
                  refine J_cVI (ci := 10) (c := 158) (as := [pI (nI t), pI (nI 0)]) (st := [pI (nI (100 * (t + 1) + i33)), pR (some 177), pL (sOf A t (i44 + 1))]) dX10_list_139 lX10_246 okX10_of vX10_of s158 (by decide) rfl rfl rfl (Nat.le_of_ble_eq_true rfl) ⟨Nat.le_of_ble_eq_true rfl, Nat.le_of_ble_eq_true rfl⟩ CR.f (c_X10_of hG (by omega) (by decide) (hM.t ht (by decide))) (fun vq16 gq16 eq16 => ?_)
                  obtain ⟨rfl, fq16⟩ := eq16
                  rw [fq16]
                  refine J_iload dX10_list_142 rfl ?_
                  refine J_imulN dX10_list_144 ?_
                  refine J_isubN dX10_list_145 (by omega) ?_
                  refine J_laldN dX10_list_146 s177 (by decide) (by omega) ?_
                  refine J_cvL ((show h33.2.1 177 (100 * (t + 1) + i33 - aP A 2 t 0 * (i44 + 1)) = bT A (t + 1) (i33 - aP A 2 t 0 * (i44 + 1)) from (by rw [show 100 * (t + 1) + i33 - aP A 2 t 0 * (i44 + 1) = 100 * (t + 1) + (i33 - aP A 2 t 0 * (i44 + 1)) by omega]; exact hN _ (by omega)))) ?_
                  refine J_ladd dX10_list_147 ?_
                  refine J_cvL (y := lfT A t i33 (i44 + 1)) (by unfold lfT; rw [Nat.mul_comm (aP A 2 t 0)]) ?_
                  refine J_lstore (L' := [some (pR (some 158)), some (pI (nI (aP A 0 3 0))), some (pI (nI t)), some (pI (nI i33)), some (pL (lfT A t i33 (bst (lfT A t i33) i44))), none, some (pI (nI (i44 + 1))), some (pL (lfT A t i33 (i44 + 1))), none]) dX10_list_148 (by decide) rfl ?_
                  refine J_lload dX10_list_150 rfl ?_
                  refine J_lload dX10_list_152 rfl ?_
                  refine J_lcmp dX10_list_154 ?_
                  refine J_lif_le dX10_list_155 (fun d1 => ?_) (fun d1 => ?_)
                  · refine J_lload dX10_list_163 rfl ?_
                    refine J_lstore (L' := [some (pR (some 158)), some (pI (nI (aP A 0 3 0))), some (pI (nI t)), some (pI (nI i33)), some (pL (lfT A t i33 (bst (lfT A t i33) i44))), none, some (pI (nI (i44 + 1))), some (pL (lfT A t i33 (i44 + 1))), none]) dX10_list_165 (by decide) rfl ?_
                    refine J_iincN (n := 1) (L' := [some (pR (some 158)), some (pI (nI (aP A 0 3 0))), some (pI (nI t)), some (pI (nI i33)), some (pL (lfT A t i33 (bst (lfT A t i33) i44))), none, some (pI (nI (i44 + 1 + 1))), some (pL (lfT A t i33 (i44 + 1))), none]) dX10_list_167 rfl (by decide) rfl ?_
                    refine J_goto dX10_list_170 ?_
                    refine J_drop (L' := [some (pR (some 158)), some (pI (nI (aP A 0 3 0))), some (pI (nI t)), some (pI (nI i33)), some (pL (lfT A t i33 (bst (lfT A t i33) i44))), none, some (pI (nI (i44 + 1 + 1))), none, none]) 7 rfl ?_
                    have K := ih44
                    rw [show bst (lfT A t i33) (i44 + 1) = bst (lfT A t i33) i44 from if_neg (Int64.not_lt.mpr d1)] at K
                    exact K
                  · refine J_lload dX10_list_158 rfl ?_
                    refine J_goto dX10_list_160 ?_
                    refine J_lstore (L' := [some (pR (some 158)), some (pI (nI (aP A 0 3 0))), some (pI (nI t)), some (pI (nI i33)), some (pL (lfT A t i33 (i44 + 1))), none, some (pI (nI (i44 + 1))), some (pL (lfT A t i33 (i44 + 1))), none]) dX10_list_165 (by decide) rfl ?_
                    refine J_iincN (n := 1) (L' := [some (pR (some 158)), some (pI (nI (aP A 0 3 0))), some (pI (nI t)), some (pI (nI i33)), some (pL (lfT A t i33 (i44 + 1))), none, some (pI (nI (i44 + 1 + 1))), some (pL (lfT A t i33 (i44 + 1))), none]) dX10_list_167 rfl (by decide) rfl ?_
                    refine J_goto dX10_list_170 ?_
                    refine J_drop (L' := [some (pR (some 158)), some (pI (nI (aP A 0 3 0))), some (pI (nI t)), some (pI (nI i33)), some (pL (lfT A t i33 (i44 + 1))), none, some (pI (nI (i44 + 1 + 1))), none, none]) 7 rfl ?_
                    have K := ih44
                    rw [show bst (lfT A t i33) (i44 + 1) = i44 + 1 from if_pos (Int64.not_le.mp d1)] at K
                    exact K
    · show J _ _ _ _ _ [some (pR (some 158)), some (pI (nI (aP A 0 3 0))), some (pI (nI i1)), none, none, none, none, none, none] _ _ h1
      obtain ⟨hI2, hI3⟩ := hI1
      have hM := hM0.mq hI3.m177
      have hG := hI3.g hG0
      refine J_iload_n dX10_list_24 rfl ?_
      refine J_bipush (x := nI 100) dX10_list_25 (by decide) ?_
      refine J_icmp_geN dX10_list_27 (by omega) (by omega) (fun c18 => ?_) (fun c18 => ?_)
      · exact (show False by omega).elim
      · refine J_aload_n dX10_list_30 rfl ?_
        refine J_getR (r := some 177) dX10_list_31 fX10_74 s158 (fun _ => rfl) (g158_40 hG) ?_
        refine J_bipush (x := nI 100) dX10_list_34 (by decide) ?_
        refine J_iload_n dX10_list_36 rfl ?_
        refine J_imulN dX10_list_37 ?_
        refine J_iload_n dX10_list_38 rfl ?_
        refine J_iaddN dX10_list_39 ?_
        refine J_lconst (x := 0) dX10_list_40 rfl ?_
        refine J_lastN dX10_list_41 s177 (by decide) (by omega) ?_
        refine J_iincN (n := 1) (L' := [some (pR (some 158)), some (pI (nI (aP A 0 3 0))), some (pI (nI (i1 + 1))), none, none, none, none, none, none]) dX10_list_42 rfl (by decide) rfl ?_
        refine J_goto dX10_list_45 ?_
        exact ih1 () _ ⟨fun j hj => by
        by_cases q : j = i1
        · subst q; exact rL_s
        · exact (rL_k (by omega)).trans (hI2 j (by omega)), hI3.tr (Fr.sL (by decide) (by decide))⟩
  · exact (show False by omega).elim
theorem c_X10_list_no {h : PH} {A : AS} (hG : GR h.2.2) (hM : MI h A) (hW : WF A) (hno : aP A 0 2 0 = 0) : CtL mX10_list h [pR (some 158)] (fun v h' => v = -9000000000000000000 ∧ MP h h' A) := by
  have bN := hW.1
  have bk := hW.wk
  have bc := hW.cs
  have bw := hW.wn
  have bt := hW.tn
  have bf := hW.fn
  refine Ct.of (L := [some (pR (some 158)), none, none, none, none, none, none, none, none]) rfl rfl (Nat.le_of_ble_eq_true rfl) rfl ?_
  refine J_aload_n dX10_list_0 rfl ?_
  refine J_cVI (ci := 10) (c := 158) (as := []) (st := []) dX10_list_1 lX10_234 okX10_hasWinters vX10_hasWinters s158 (by decide) rfl rfl rfl (Nat.le_of_ble_eq_true rfl) ⟨Nat.le_of_ble_eq_true rfl, Nat.le_of_ble_eq_true rfl⟩ CR.f (c_X10_hasWinters hG (hM.nm (by decide)) (by omega)) (fun vq1 gq1 eq1 => ?_)
  obtain ⟨rfl, fq1⟩ := eq1
  rw [fq1]
  refine J_if_neB dX10_list_4 (fun c2 => ?_) (fun c2 => ?_)
  · exact (show False by omega).elim
  · refine J_ldc2 dX10_list_7 kX10_309 ?_
    exact J_retL dX10_list_10 rfl ⟨rfl, hM, Fr.rf⟩
theorem c_X10_list {h : PH} {A : AS} (hG : GR h.2.2) (hM : MI h A) (hW : WF A) : CtL mX10_list h [pR (some 158)] (fun v h' => v = listA A ∧ MP h h' (listS A)) := by
  by_cases hn : aP A 0 2 0 = 0
  · rw [listA, listS, if_pos hn, if_pos hn]
    exact c_X10_list_no hG hM hW hn
  · rw [listA, listS, if_neg hn, if_neg hn]
    exact c_X10_list_in hG hM hW (Nat.pos_of_ne_zero hn)
