theorem c_X9_listed_in {h : PH} {p : Nat} {A : AS} {t : Nat} (hG : GR h.2.2) (hX : XI h p A) (hW : WF A) (ht : t < aP A 0 3 0) (hl : (aL A).1 = 1) : CtI mX9_listed h [pR (some 0), pI (nI t)] (fun v h' => v = nI ((aL A).2 t) ∧ XP h h' p A) := by
  have bN := hW.1
  have bk := hW.wk
  have bc := hW.cs
  have bw := hW.wn
  have bt := hW.tn
  have bf := hW.fn
  have hrn : IsRn 117 := Or.inl rfl
  have bo : aR A 0 0 < 2 := hW.on (by decide)
  have bl : (aL A).1 < 2 := hW.2.2.2.2.1.1
  refine Ct.of (L := [some (pR (some 0)), some (pI (nI t))]) rfl rfl (Nat.le_of_ble_eq_true rfl) rfl ?_
  refine J_aload_n dX9_listed_0 rfl ?_
  refine J_getR (r := some 103) dX9_listed_1 fX9_51 s0 (fun _ => rfl) (g0_7 hG) ?_
  refine J_getI dX9_listed_4 fX9_88 s103 (fun _ => rfl) ?_
  refine J_cvI (hX.2.2.2.2.2.1.1) ?_
  refine J_if_eqN dX9_listed_7 (by omega) (fun c1 => ?_) (fun c1 => ?_)
  · exact (show False by omega).elim
  · refine J_aload_n dX9_listed_10 rfl ?_
    refine J_iload_n dX9_listed_11 rfl ?_
    refine J_cVI (ci := 9) (c := 0) (as := [pI (nI t)]) (st := []) dX9_listed_12 lX9_130 okX9_hasThing vX9_hasThing s0 (by decide) rfl rfl rfl (Nat.le_of_ble_eq_true rfl) ⟨Nat.le_of_ble_eq_true rfl, Nat.le_of_ble_eq_true rfl⟩ CR.f (c_X9_hasThing hG hX.po hX.cu hX.tn (by omega)) (fun vq2 gq2 eq2 => ?_)
    obtain ⟨rfl, fq2⟩ := eq2
    rw [fq2]
    refine J_cvI (bI_congr (inR_nI_iff (by omega))) ?_
    refine J_if_eqB dX9_listed_15 (fun c3 => ?_) (fun c3 => ?_)
    · exact (show False by omega).elim
    · refine J_aload_n dX9_listed_18 rfl ?_
      refine J_getR (r := some 103) dX9_listed_19 fX9_51 s0 (fun _ => rfl) (g0_7 hG) ?_
      refine J_getR (r := some 109) dX9_listed_22 fX9_258 s103 (fun _ => rfl) (g103_1 hG) ?_
      refine J_iload_n dX9_listed_25 rfl ?_
      refine J_ialdN dX9_listed_26 s109 (by decide) (by omega) ?_
      refine J_cvI ((hX.2.2.2.2.2.1.2 hl t ht)) ?_
      refine J_goto dX9_listed_27 ?_
      exact J_retI dX9_listed_31 rfl ⟨rfl, hX, Fr.rf⟩
theorem c_X9_listed_no {h : PH} {p : Nat} {A : AS} {t : Int32} (hG : GR h.2.2) (hX : XI h p A) (hW : WF A) (hno : ¬ ((aL A).1 = 1 ∧ inR t (aP A 0 3 0))) : CtI mX9_listed h [pR (some 0), pI t] (fun v h' => v = -1 ∧ XP h h' p A) := by
  have bN := hW.1
  have bk := hW.wk
  have bc := hW.cs
  have bw := hW.wn
  have bt := hW.tn
  have bf := hW.fn
  have hrn : IsRn 117 := Or.inl rfl
  have bo : aR A 0 0 < 2 := hW.on (by decide)
  have bl : (aL A).1 < 2 := hW.2.2.2.2.1.1
  refine Ct.of (L := [some (pR (some 0)), some (pI t)]) rfl rfl (Nat.le_of_ble_eq_true rfl) rfl ?_
  refine J_aload_n dX9_listed_0 rfl ?_
  refine J_getR (r := some 103) dX9_listed_1 fX9_51 s0 (fun _ => rfl) (g0_7 hG) ?_
  refine J_getI dX9_listed_4 fX9_88 s103 (fun _ => rfl) ?_
  refine J_cvI (hX.2.2.2.2.2.1.1) ?_
  refine J_if_eqN dX9_listed_7 (by omega) (fun d1 => ?_) (fun d1 => ?_)
  · refine J_iconst (x := -1) dX9_listed_30 (by decide) ?_
    exact J_retI dX9_listed_31 rfl ⟨rfl, hX, Fr.rf⟩
  · refine J_aload_n dX9_listed_10 rfl ?_
    refine J_iload_n dX9_listed_11 rfl ?_
    refine J_cVI (ci := 9) (c := 0) (as := [pI t]) (st := []) dX9_listed_12 lX9_130 okX9_hasThing vX9_hasThing s0 (by decide) rfl rfl rfl (Nat.le_of_ble_eq_true rfl) ⟨Nat.le_of_ble_eq_true rfl, Nat.le_of_ble_eq_true rfl⟩ CR.f (c_X9_hasThing hG hX.po hX.cu hX.tn (by omega)) (fun vq2 gq2 eq2 => ?_)
    obtain ⟨rfl, fq2⟩ := eq2
    rw [fq2]
    refine J_if_eqB dX9_listed_15 (fun d2 => ?_) (fun d2 => ?_)
    · refine J_iconst (x := -1) dX9_listed_30 (by decide) ?_
      exact J_retI dX9_listed_31 rfl ⟨rfl, hX, Fr.rf⟩
    · exact absurd ⟨by omega, d2⟩ hno
theorem c_X10_listed_in {h : PH} {A : AS} {t : Nat} (hG : GR h.2.2) (hM : MI h A) (hW : WF A) (ht : t < aP A 0 3 0) (hl : (aL A).1 = 1) : CtI mX10_listed h [pR (some 158), pI (nI t)] (fun v h' => v = nI ((aL A).2 t) ∧ MP h h' A) := by
  have bN := hW.1
  have bk := hW.wk
  have bc := hW.cs
  have bw := hW.wn
  have bt := hW.tn
  have bf := hW.fn
  have bo : aR A 0 0 < 2 := hW.on (by decide)
  have bl : (aL A).1 < 2 := hW.2.2.2.2.1.1
  refine Ct.of (L := [some (pR (some 158)), some (pI (nI t))]) rfl rfl (Nat.le_of_ble_eq_true rfl) rfl ?_
  refine J_aload_n dX10_listed_0 rfl ?_
  refine J_getI dX10_listed_1 fX10_189 s158 (fun _ => rfl) ?_
  refine J_cvI (hM.2.2.2.2.1.1) ?_
  refine J_if_eqN dX10_listed_4 (by omega) (fun c1 => ?_) (fun c1 => ?_)
  · exact (show False by omega).elim
  · refine J_aload_n dX10_listed_7 rfl ?_
    refine J_iload_n dX10_listed_8 rfl ?_
    refine J_cVI (ci := 10) (c := 158) (as := [pI (nI t)]) (st := []) dX10_listed_9 lX10_243 okX10_isThing vX10_isThing s158 (by decide) rfl rfl rfl (Nat.le_of_ble_eq_true rfl) ⟨Nat.le_of_ble_eq_true rfl, Nat.le_of_ble_eq_true rfl⟩ CR.f (c_X10_isThing hG (hM.nm (by decide)) (by omega)) (fun vq2 gq2 eq2 => ?_)
    obtain ⟨rfl, fq2⟩ := eq2
    rw [fq2]
    refine J_cvI (bI_congr (inR_nI_iff (by omega))) ?_
    refine J_if_eqB dX10_listed_12 (fun c3 => ?_) (fun c3 => ?_)
    · exact (show False by omega).elim
    · refine J_aload_n dX10_listed_15 rfl ?_
      refine J_getR (r := some 178) dX10_listed_16 fX10_77 s158 (fun _ => rfl) (g158_41 hG) ?_
      refine J_iload_n dX10_listed_19 rfl ?_
      refine J_ialdN dX10_listed_20 s178 (by decide) (by omega) ?_
      refine J_cvI ((hM.2.2.2.2.1.2 hl t ht)) ?_
      refine J_goto dX10_listed_21 ?_
      exact J_retI dX10_listed_25 rfl ⟨rfl, hM, Fr.rf⟩
theorem c_X10_listed_no {h : PH} {A : AS} {t : Int32} (hG : GR h.2.2) (hM : MI h A) (hW : WF A) (hno : ¬ ((aL A).1 = 1 ∧ inR t (aP A 0 3 0))) : CtI mX10_listed h [pR (some 158), pI t] (fun v h' => v = -1 ∧ MP h h' A) := by
  have bN := hW.1
  have bk := hW.wk
  have bc := hW.cs
  have bw := hW.wn
  have bt := hW.tn
  have bf := hW.fn
  have bo : aR A 0 0 < 2 := hW.on (by decide)
  have bl : (aL A).1 < 2 := hW.2.2.2.2.1.1
  refine Ct.of (L := [some (pR (some 158)), some (pI t)]) rfl rfl (Nat.le_of_ble_eq_true rfl) rfl ?_
  refine J_aload_n dX10_listed_0 rfl ?_
  refine J_getI dX10_listed_1 fX10_189 s158 (fun _ => rfl) ?_
  refine J_cvI (hM.2.2.2.2.1.1) ?_
  refine J_if_eqN dX10_listed_4 (by omega) (fun d1 => ?_) (fun d1 => ?_)
  · refine J_iconst (x := -1) dX10_listed_24 (by decide) ?_
    exact J_retI dX10_listed_25 rfl ⟨rfl, hM, Fr.rf⟩
  · refine J_aload_n dX10_listed_7 rfl ?_
    refine J_iload_n dX10_listed_8 rfl ?_
    refine J_cVI (ci := 10) (c := 158) (as := [pI t]) (st := []) dX10_listed_9 lX10_243 okX10_isThing vX10_isThing s158 (by decide) rfl rfl rfl (Nat.le_of_ble_eq_true rfl) ⟨Nat.le_of_ble_eq_true rfl, Nat.le_of_ble_eq_true rfl⟩ CR.f (c_X10_isThing hG (hM.nm (by decide)) (by omega)) (fun vq2 gq2 eq2 => ?_)
    obtain ⟨rfl, fq2⟩ := eq2
    rw [fq2]
    refine J_if_eqB dX10_listed_12 (fun d2 => ?_) (fun d2 => ?_)
    · refine J_iconst (x := -1) dX10_listed_24 (by decide) ?_
      exact J_retI dX10_listed_25 rfl ⟨rfl, hM, Fr.rf⟩
    · exact absurd ⟨by omega, d2⟩ hno
theorem c_X9_listed {h : PH} {p : Nat} {A : AS} {t : Int32} (hG : GR h.2.2) (hX : XI h p A) (hW : WF A) : CtI mX9_listed h [pR (some 0), pI t] (fun v h' => v = listedA A t ∧ XP h h' p A) := by
  by_cases hok : (aL A).1 = 1 ∧ inR t (aP A 0 3 0)
  · obtain ⟨h1, h2⟩ := id hok
    obtain ⟨t, ht, rfl⟩ := inR_of h2
    have bt := hW.tn
    rw [listedA, if_pos hok, cl, nI_clamp (by omega)]
    exact c_X9_listed_in hG hX hW ht h1
  · rw [listedA, if_neg hok]
    exact c_X9_listed_no hG hX hW hok
theorem c_X10_listed {h : PH} {A : AS} {t : Int32} (hG : GR h.2.2) (hM : MI h A) (hW : WF A) : CtI mX10_listed h [pR (some 158), pI t] (fun v h' => v = listedA A t ∧ MP h h' A) := by
  by_cases hok : (aL A).1 = 1 ∧ inR t (aP A 0 3 0)
  · obtain ⟨h1, h2⟩ := id hok
    obtain ⟨t, ht, rfl⟩ := inR_of h2
    have bt := hW.tn
    rw [listedA, if_pos hok, cl, nI_clamp (by omega)]
    exact c_X10_listed_in hG hM hW ht h1
  · rw [listedA, if_neg hok]
    exact c_X10_listed_no hG hM hW hok
theorem c_X9_stock_in {h : PH} {p : Nat} {A : AS} {t i : Nat} (hG : GR h.2.2) (hX : XI h p A) (hW : WF A) (ht : t < aP A 0 3 0) (hi : i < 6) : CtI mX9_stock h [pR (some 0), pI (nI t), pI (nI i)] (fun v h' => v = (if aR A 0 0 = 1 then rwV i (aW A 0 i t) else -1) ∧ XP h h' p A) := by
  have bN := hW.1
  have bk := hW.wk
  have bc := hW.cs
  have bw := hW.wn
  have bt := hW.tn
  have bf := hW.fn
  have hrn : IsRn 117 := Or.inl rfl
  have bo : aR A 0 0 < 2 := hW.on (by decide)
  have bl : (aL A).1 < 2 := hW.2.2.2.2.1.1
  refine Ct.of (L := [some (pR (some 0)), some (pI (nI t)), some (pI (nI i))]) rfl rfl (Nat.le_of_ble_eq_true rfl) rfl ?_
  refine J_aload_n dX9_stock_0 rfl ?_
  refine J_iload_n dX9_stock_1 rfl ?_
  refine J_cVI (ci := 9) (c := 0) (as := [pI (nI t)]) (st := []) dX9_stock_2 lX9_130 okX9_hasThing vX9_hasThing s0 (by decide) rfl rfl rfl (Nat.le_of_ble_eq_true rfl) ⟨Nat.le_of_ble_eq_true rfl, Nat.le_of_ble_eq_true rfl⟩ CR.f (c_X9_hasThing hG hX.po hX.cu hX.tn (by omega)) (fun vq1 gq1 eq1 => ?_)
  obtain ⟨rfl, fq1⟩ := eq1
  rw [fq1]
  refine J_cvI (bI_congr (inR_nI_iff (by omega))) ?_
  refine J_if_eqB dX9_stock_5 (fun c2 => ?_) (fun c2 => ?_)
  · exact (show False by omega).elim
  · refine J_iload_n dX9_stock_8 rfl ?_
    refine J_if_ltN dX9_stock_9 (by omega) ?_
    refine J_iload_n dX9_stock_12 rfl ?_
    refine J_bipush (x := nI 6) dX9_stock_13 (by decide) ?_
    refine J_icmp_ltN dX9_stock_15 (by omega) (by omega) (fun c3 => ?_) (fun c3 => ?_)
    · refine J_aload_n dX9_stock_21 rfl ?_
      refine J_getR (r := some 117) dX9_stock_22 fX9_62 s0 (fun _ => rfl) (g0_9 hG) ?_
      refine J_getI dX9_stock_25 fX9_95 s117 (fun _ => rfl) ?_
      refine J_cvI (hX.rn.1) ?_
      refine J_if_eqN dX9_stock_28 (by omega) (fun c4 => ?_) (fun c4 => ?_)
      · refine J_iconst (x := -1) dX9_stock_45 (by decide) ?_
        exact J_retI dX9_stock_46 rfl ⟨(if_neg (by omega)).symm, hX, Fr.rf⟩
      · refine J_aload_n dX9_stock_31 rfl ?_
        refine J_getR (r := some 117) dX9_stock_32 fX9_62 s0 (fun _ => rfl) (g0_9 hG) ?_
        refine J_getR (r := some (117 + 1)) dX9_stock_35 fX9_319 s117 (fun _ => rfl) (hrn.e4 hG) ?_
        refine J_iload_n dX9_stock_38 rfl ?_
        refine J_aald7N (r := some (117 + 2 + i)) dX9_stock_39 hrn.s1 (by decide) (by omega) (hrn.er hG (by omega)) ?_
        refine J_iload_n dX9_stock_40 rfl ?_
        refine J_ialdN dX9_stock_41 (hrn.sr (by omega)) (by decide) (by omega) ?_
        refine J_cvI (((hX.rn.2 (by omega)).2.2.2.2 t ht i (by omega))) ?_
        refine J_goto dX9_stock_42 ?_
        exact J_retI dX9_stock_46 rfl ⟨(if_pos (by omega)).symm, hX, Fr.rf⟩
    · exact (show False by omega).elim
theorem c_X9_stock_no {h : PH} {p : Nat} {A : AS} {t i : Int32} (hG : GR h.2.2) (hX : XI h p A) (hW : WF A) (hno : ¬ (inR t (aP A 0 3 0) ∧ inR i 6)) : CtI mX9_stock h [pR (some 0), pI t, pI i] (fun v h' => v = -2 ∧ XP h h' p A) := by
  have bN := hW.1
  have bk := hW.wk
  have bc := hW.cs
  have bw := hW.wn
  have bt := hW.tn
  have bf := hW.fn
  have hrn : IsRn 117 := Or.inl rfl
  have bo : aR A 0 0 < 2 := hW.on (by decide)
  have bl : (aL A).1 < 2 := hW.2.2.2.2.1.1
  refine Ct.of (L := [some (pR (some 0)), some (pI t), some (pI i)]) rfl rfl (Nat.le_of_ble_eq_true rfl) rfl ?_
  refine J_aload_n dX9_stock_0 rfl ?_
  refine J_iload_n dX9_stock_1 rfl ?_
  refine J_cVI (ci := 9) (c := 0) (as := [pI t]) (st := []) dX9_stock_2 lX9_130 okX9_hasThing vX9_hasThing s0 (by decide) rfl rfl rfl (Nat.le_of_ble_eq_true rfl) ⟨Nat.le_of_ble_eq_true rfl, Nat.le_of_ble_eq_true rfl⟩ CR.f (c_X9_hasThing hG hX.po hX.cu hX.tn (by omega)) (fun vq1 gq1 eq1 => ?_)
  obtain ⟨rfl, fq1⟩ := eq1
  rw [fq1]
  refine J_if_eqB dX9_stock_5 (fun d1 => ?_) (fun d1 => ?_)
  · refine J_bipush (x := (-2)) dX9_stock_18 (by decide) ?_
    exact J_retI dX9_stock_20 rfl ⟨rfl, hX, Fr.rf⟩
  · refine J_iload_n dX9_stock_8 rfl ?_
    refine J_if_lt dX9_stock_9 (fun d2 => ?_) (fun d2 => ?_)
    · refine J_bipush (x := (-2)) dX9_stock_18 (by decide) ?_
      exact J_retI dX9_stock_20 rfl ⟨rfl, hX, Fr.rf⟩
    · refine J_iload_n dX9_stock_12 rfl ?_
      refine J_bipush (x := nI 6) dX9_stock_13 (by decide) ?_
      refine J_icmp_lt dX9_stock_15 (fun d3 => ?_) (fun d3 => ?_)
      · exact absurd ⟨d1, inR_a (by decide) d2 d3⟩ hno
      · refine J_bipush (x := (-2)) dX9_stock_18 (by decide) ?_
        exact J_retI dX9_stock_20 rfl ⟨rfl, hX, Fr.rf⟩
theorem c_X10_stock_in {h : PH} {A : AS} {t i : Nat} (hG : GR h.2.2) (hM : MI h A) (hW : WF A) (ht : t < aP A 0 3 0) (hi : i < 6) : CtI mX10_stock h [pR (some 158), pI (nI t), pI (nI i)] (fun v h' => v = (if aR A 0 0 = 1 then rwV i (aW A 0 i t) else -1) ∧ MP h h' A) := by
  have bN := hW.1
  have bk := hW.wk
  have bc := hW.cs
  have bw := hW.wn
  have bt := hW.tn
  have bf := hW.fn
  have bo : aR A 0 0 < 2 := hW.on (by decide)
  have bl : (aL A).1 < 2 := hW.2.2.2.2.1.1
  refine Ct.of (L := [some (pR (some 158)), some (pI (nI t)), some (pI (nI i))]) rfl rfl (Nat.le_of_ble_eq_true rfl) rfl ?_
  refine J_aload_n dX10_stock_0 rfl ?_
  refine J_iload_n dX10_stock_1 rfl ?_
  refine J_cVI (ci := 10) (c := 158) (as := [pI (nI t)]) (st := []) dX10_stock_2 lX10_243 okX10_isThing vX10_isThing s158 (by decide) rfl rfl rfl (Nat.le_of_ble_eq_true rfl) ⟨Nat.le_of_ble_eq_true rfl, Nat.le_of_ble_eq_true rfl⟩ CR.f (c_X10_isThing hG (hM.nm (by decide)) (by omega)) (fun vq1 gq1 eq1 => ?_)
  obtain ⟨rfl, fq1⟩ := eq1
  rw [fq1]
  refine J_cvI (bI_congr (inR_nI_iff (by omega))) ?_
  refine J_if_eqB dX10_stock_5 (fun c2 => ?_) (fun c2 => ?_)
  · exact (show False by omega).elim
  · refine J_iload_n dX10_stock_8 rfl ?_
    refine J_iconstN (n := 0) dX10_stock_9 ?_
    refine J_iconstN (n := 5) dX10_stock_10 ?_
    refine J_cSI (as := [pI (nI i), pI (nI 0), pI (nI 5)]) (st := []) dX10_stock_11 lX10_172 okX10_in sX10_in rfl rfl (Nat.le_of_ble_eq_true rfl) ⟨Nat.le_of_ble_eq_true rfl, Nat.le_of_ble_eq_true rfl⟩ CR.f (c_X10_in) (fun vq3 gq3 eq3 => ?_)
    obtain ⟨rfl, fq3⟩ := eq3
    rw [fq3]
    refine J_cvI (bI_congr (inN (by omega) (by omega) (by omega))) ?_
    refine J_if_neB dX10_stock_14 (fun c4 => ?_) (fun c4 => ?_)
    · refine J_aload_n dX10_stock_20 rfl ?_
      refine J_getR (r := some 184) dX10_stock_21 fX10_95 s158 (fun _ => rfl) (g158_48 hG) ?_
      refine J_iconstN (n := 0) dX10_stock_24 ?_
      refine J_ialdN dX10_stock_25 s184 (by decide) (by omega) ?_
      refine J_cvI (hM.2.2.2.2.2.1.1) ?_
      refine J_if_neN dX10_stock_26 (by omega) (fun c5 => ?_) (fun c5 => ?_)
      · refine J_aload_n dX10_stock_33 rfl ?_
        refine J_getR (r := some 184) dX10_stock_34 fX10_95 s158 (fun _ => rfl) (g158_48 hG) ?_
        refine J_bipush (x := nI 8) dX10_stock_37 (by decide) ?_
        refine J_iconstN (n := 4) dX10_stock_39 ?_
        refine J_iload_n dX10_stock_40 rfl ?_
        refine J_imulN dX10_stock_41 ?_
        refine J_iaddN dX10_stock_42 ?_
        refine J_iload_n dX10_stock_43 rfl ?_
        refine J_iaddN dX10_stock_44 ?_
        refine J_ialdN dX10_stock_45 s184 (by decide) (by omega) ?_
        refine J_cvI ((show h.1 184 (8 + 4 * i + t) = rwV i (aW A 0 i t) from (by have z := ((hM.rn (by omega)).1.2.2.2 t ht).1 i hi; rw [Nat.zero_add] at z; exact z))) ?_
        exact J_retI dX10_stock_46 rfl ⟨(if_pos (by omega)).symm, hM, Fr.rf⟩
      · refine J_iconst (x := -1) dX10_stock_29 (by decide) ?_
        refine J_goto dX10_stock_30 ?_
        exact J_retI dX10_stock_46 rfl ⟨(if_neg (by omega)).symm, hM, Fr.rf⟩
    · exact (show False by omega).elim
theorem c_X10_stock_no {h : PH} {A : AS} {t i : Int32} (hG : GR h.2.2) (hM : MI h A) (hW : WF A) (hno : ¬ (inR t (aP A 0 3 0) ∧ inR i 6)) : CtI mX10_stock h [pR (some 158), pI t, pI i] (fun v h' => v = -2 ∧ MP h h' A) := by
  have bN := hW.1
  have bk := hW.wk
  have bc := hW.cs
  have bw := hW.wn
  have bt := hW.tn
  have bf := hW.fn
  have bo : aR A 0 0 < 2 := hW.on (by decide)
  have bl : (aL A).1 < 2 := hW.2.2.2.2.1.1
  refine Ct.of (L := [some (pR (some 158)), some (pI t), some (pI i)]) rfl rfl (Nat.le_of_ble_eq_true rfl) rfl ?_
  refine J_aload_n dX10_stock_0 rfl ?_
  refine J_iload_n dX10_stock_1 rfl ?_
  refine J_cVI (ci := 10) (c := 158) (as := [pI t]) (st := []) dX10_stock_2 lX10_243 okX10_isThing vX10_isThing s158 (by decide) rfl rfl rfl (Nat.le_of_ble_eq_true rfl) ⟨Nat.le_of_ble_eq_true rfl, Nat.le_of_ble_eq_true rfl⟩ CR.f (c_X10_isThing hG (hM.nm (by decide)) (by omega)) (fun vq1 gq1 eq1 => ?_)
  obtain ⟨rfl, fq1⟩ := eq1
  rw [fq1]
  refine J_if_eqB dX10_stock_5 (fun d1 => ?_) (fun d1 => ?_)
  · refine J_bipush (x := (-2)) dX10_stock_17 (by decide) ?_
    exact J_retI dX10_stock_19 rfl ⟨rfl, hM, Fr.rf⟩
  · refine J_iload_n dX10_stock_8 rfl ?_
    refine J_iconstN (n := 0) dX10_stock_9 ?_
    refine J_iconstN (n := 5) dX10_stock_10 ?_
    refine J_cSI (as := [pI i, pI (nI 0), pI (nI 5)]) (st := []) dX10_stock_11 lX10_172 okX10_in sX10_in rfl rfl (Nat.le_of_ble_eq_true rfl) ⟨Nat.le_of_ble_eq_true rfl, Nat.le_of_ble_eq_true rfl⟩ CR.f (c_X10_in) (fun vq3 gq3 eq3 => ?_)
    obtain ⟨rfl, fq3⟩ := eq3
    rw [fq3]
    refine J_cvI (bI_congr (in_iffN (b := 5) (by decide))) ?_
    refine J_if_neB dX10_stock_14 (fun d2 => ?_) (fun d2 => ?_)
    · exact absurd ⟨d1, d2⟩ hno
    · refine J_bipush (x := (-2)) dX10_stock_17 (by decide) ?_
      exact J_retI dX10_stock_19 rfl ⟨rfl, hM, Fr.rf⟩
theorem c_X9_stock {h : PH} {p : Nat} {A : AS} {t i : Int32} (hG : GR h.2.2) (hX : XI h p A) (hW : WF A) : CtI mX9_stock h [pR (some 0), pI t, pI i] (fun v h' => v = stockA A t i ∧ XP h h' p A) := by
  by_cases hok : inR t (aP A 0 3 0) ∧ inR i 6
  · obtain ⟨h1, h2⟩ := id hok
    obtain ⟨t, ht, rfl⟩ := inR_of h1
    obtain ⟨i, hi, rfl⟩ := inR_of h2
    have bt := hW.tn
    rw [stockA, if_pos hok, cl, cl, nI_clamp (by omega), nI_clamp (by omega)]
    exact c_X9_stock_in hG hX hW ht hi
  · rw [stockA, if_neg hok]
    exact c_X9_stock_no hG hX hW hok
theorem c_X10_stock {h : PH} {A : AS} {t i : Int32} (hG : GR h.2.2) (hM : MI h A) (hW : WF A) : CtI mX10_stock h [pR (some 158), pI t, pI i] (fun v h' => v = stockA A t i ∧ MP h h' A) := by
  by_cases hok : inR t (aP A 0 3 0) ∧ inR i 6
  · obtain ⟨h1, h2⟩ := id hok
    obtain ⟨t, ht, rfl⟩ := inR_of h1
    obtain ⟨i, hi, rfl⟩ := inR_of h2
    have bt := hW.tn
    rw [stockA, if_pos hok, cl, cl, nI_clamp (by omega), nI_clamp (by omega)]
    exact c_X10_stock_in hG hM hW ht hi
  · rw [stockA, if_neg hok]
    exact c_X10_stock_no hG hM hW hok
theorem c_X6_judged {h : PH} {p : Nat} {A : AS} (hG : GR h.2.2) (hX : XI h p A) (hW : WF A) (hon : aR A 0 0 = 1) : CtI mX6_judged h [pR (some 117), pR (some p)] (fun v h' => v = jd (aP A) (aR A 0) (aW A 0) (aP A 0 3 0) ∧ h' = h) := by
  have bN := hW.1
  have bk := hW.wk
  have bc := hW.cs
  have bw := hW.wn
  have bt := hW.tn
  have bf := hW.fn
  have hrn : IsRn 117 := Or.inl rfl
  have bo : aR A 0 0 < 2 := hW.on (by decide)
  have bl : (aL A).1 < 2 := hW.2.2.2.2.1.1
  obtain ⟨hr1, hr2, hr3, hrs, hrw⟩ := (hW.rn (r := 0) (by decide)).2 hon
  refine Ct.of (L := [some (pR (some 117)), some (pR (some p)), none, none, none]) rfl rfl (Nat.le_of_ble_eq_true rfl) rfl ?_
  refine J_iconstN (n := 0) dX6_judged_0 ?_
  refine J_istore_n (L' := [some (pR (some 117)), some (pR (some p)), some (pI (nI 0)), none, none]) dX6_judged_1 (by decide) rfl ?_
  refine J_iconstN (n := 0) dX6_judged_2 ?_
  refine J_istore_n (L' := [some (pR (some 117)), some (pR (some p)), some (pI (nI 0)), some (pI (nI 0)), none]) dX6_judged_3 (by decide) rfl ?_
  refine J_L (L' := [some (pR (some 117)), some (pR (some p)), some (pI (jd (aP A) (aR A 0) (aW A 0) 0)), some (pI (nI 0)), none]) rfl ?_
  refine J_for (L := fun i => [some (pR (some 117)), some (pR (some p)), some (pI (jd (aP A) (aR A 0) (aW A 0) i)), some (pI (nI i)), none]) (hf := fun i => h) (e := aP A 0 3 0) ?_ (fun i hi ih => ?_) 0 (by omega)
  · show J _ _ _ _ _ [some (pR (some 117)), some (pR (some p)), some (pI (jd (aP A) (aR A 0) (aW A 0) (aP A 0 3 0))), some (pI (nI (aP A 0 3 0))), none] _ _ (h)
    refine J_iload_n dX6_judged_4 rfl ?_
    refine J_aload_n dX6_judged_5 rfl ?_
    refine J_getI dX6_judged_6 fX6_74 hX.po.s (fun _ => rfl) ?_
    refine J_cvI (hX.tn) ?_
    refine J_icmp_geN dX6_judged_9 (by omega) (by omega) (fun c1 => ?_) (fun c1 => ?_)
    · refine J_iload_n dX6_judged_102 rfl ?_
      exact J_retI dX6_judged_103 rfl ⟨rfl, rfl⟩
    · exact (show False by omega).elim
  · show J _ _ _ _ _ [some (pR (some 117)), some (pR (some p)), some (pI (jd (aP A) (aR A 0) (aW A 0) i)), some (pI (nI i)), none] _ _ (h)
    refine J_iload_n dX6_judged_4 rfl ?_
    refine J_aload_n dX6_judged_5 rfl ?_
    refine J_getI dX6_judged_6 fX6_74 hX.po.s (fun _ => rfl) ?_
    refine J_cvI (hX.tn) ?_
    refine J_icmp_geN dX6_judged_9 (by omega) (by omega) (fun c2 => ?_) (fun c2 => ?_)
    · exact (show False by omega).elim
    · refine J_aload_n dX6_judged_12 rfl ?_
      refine J_getR (r := some (p + 7)) dX6_judged_13 fX6_77 hX.po.s (fun _ => rfl) (hX.po.e10 hG) ?_
      refine J_iload_n dX6_judged_16 rfl ?_
      refine J_aald4N (r := some (p + 9 + 7 * i)) dX6_judged_17 hX.po.s7 (by decide) (by omega) (hX.po.eth hG (by omega)) ?_
      refine J_astore (L' := [some (pR (some 117)), some (pR (some p)), some (pI (jd (aP A) (aR A 0) (aW A 0) i)), some (pI (nI i)), some (pR (some (p + 9 + 7 * i)))]) dX6_judged_18 (by decide) rfl ?_
      refine J_iload_n dX6_judged_20 rfl ?_
      refine J_aload dX6_judged_21 rfl ?_
      refine J_getI dX6_judged_23 fX6_112 (hX.th hW hi).s (fun _ => rfl) ?_
      refine J_cvI ((hX.t hi (by decide))) ?_
      refine J_aload_n dX6_judged_26 rfl ?_
      refine J_getR (r := some (117 + 1)) dX6_judged_27 fX6_17 s117 (fun _ => rfl) (hrn.e4 hG) ?_
      refine J_iconstN (n := 1) dX6_judged_30 ?_
      refine J_aald7N (r := some (117 + 2 + 1)) dX6_judged_31 hrn.s1 (by decide) (by omega) (hrn.er hG (by omega)) ?_
      refine J_iload_n dX6_judged_32 rfl ?_
      refine J_ialdN dX6_judged_33 (hrn.sr (by omega)) (by decide) (by omega) ?_
      refine J_cvI ((show _ = nI (aW A 0 1 i) from (hX.rn.2 hon).2.2.2.2 i hi 1 (by decide))) ?_
      refine J_imulN dX6_judged_34 ?_
      refine J_aload dX6_judged_35 rfl ?_
      refine J_getI dX6_judged_37 fX6_115 (hX.th hW hi).s (fun _ => rfl) ?_
      refine J_cvI ((hX.t hi (by decide))) ?_
      refine J_aload_n dX6_judged_40 rfl ?_
      refine J_getR (r := some (117 + 1)) dX6_judged_41 fX6_17 s117 (fun _ => rfl) (hrn.e4 hG) ?_
      refine J_iconstN (n := 2) dX6_judged_44 ?_
      refine J_aald7N (r := some (117 + 2 + 2)) dX6_judged_45 hrn.s1 (by decide) (by omega) (hrn.er hG (by omega)) ?_
      refine J_iload_n dX6_judged_46 rfl ?_
      refine J_ialdN dX6_judged_47 (hrn.sr (by omega)) (by decide) (by omega) ?_
      refine J_cvI ((show _ = nI (aW A 0 2 i) from (hX.rn.2 hon).2.2.2.2 i hi 2 (by decide))) ?_
      refine J_imulN dX6_judged_48 ?_
      refine J_isub dX6_judged_49 ?_
      refine J_aload dX6_judged_50 rfl ?_
      refine J_getI dX6_judged_52 fX6_118 (hX.th hW hi).s (fun _ => rfl) ?_
      refine J_cvI ((hX.t hi (by decide))) ?_
      refine J_aload_n dX6_judged_55 rfl ?_
      refine J_getR (r := some (117 + 1)) dX6_judged_56 fX6_17 s117 (fun _ => rfl) (hrn.e4 hG) ?_
      refine J_bipush (x := nI 6) dX6_judged_59 (by decide) ?_
      refine J_aald7N (r := some (117 + 2 + 6)) dX6_judged_61 hrn.s1 (by decide) (by omega) (hrn.er hG (by omega)) ?_
      refine J_iload_n dX6_judged_62 rfl ?_
      refine J_ialdN dX6_judged_63 (hrn.sr (by omega)) (by decide) (by omega) ?_
      refine J_cvI ((show _ = nI (aW A 0 6 i) from (hX.rn.2 hon).2.2.2.2 i hi 6 (by decide))) ?_
      refine J_imulN dX6_judged_64 ?_
      refine J_isub dX6_judged_65 ?_
      refine J_iadd dX6_judged_66 ?_
      refine J_istore_n (L' := [some (pR (some 117)), some (pR (some p)), some (pI ((jd (aP A) (aR A 0) (aW A 0) i) + (((nI (aP A 2 i 2 * aW A 0 1 i)) - (nI (aP A 2 i 3 * aW A 0 2 i))) - (nI (aP A 2 i 1 * aW A 0 6 i))))), some (pI (nI i)), some (pR (some (p + 9 + 7 * i)))]) dX6_judged_67 (by decide) rfl ?_
      refine J_aload_n dX6_judged_68 rfl ?_
      refine J_getI dX6_judged_69 fX6_31 s117 (fun _ => rfl) ?_
      refine J_cvI ((hX.rn.2 hon).2.1) ?_
      refine J_aload_n dX6_judged_72 rfl ?_
      refine J_getI dX6_judged_73 fX6_121 hX.po.s (fun _ => rfl) ?_
      refine J_cvI (hX.wk) ?_
      refine J_icmp_ltN dX6_judged_76 (by omega) (by omega) (fun c3 => ?_) (fun c3 => ?_)
      · refine J_iincN (n := 1) (L' := [some (pR (some 117)), some (pR (some p)), some (pI ((jd (aP A) (aR A 0) (aW A 0) i) + (((nI (aP A 2 i 2 * aW A 0 1 i)) - (nI (aP A 2 i 3 * aW A 0 2 i))) - (nI (aP A 2 i 1 * aW A 0 6 i))))), some (pI (nI (i + 1))), some (pR (some (p + 9 + 7 * i)))]) dX6_judged_96 rfl (by decide) rfl ?_
        refine J_goto dX6_judged_99 ?_
        refine J_drop (L' := [some (pR (some 117)), some (pR (some p)), some (pI ((jd (aP A) (aR A 0) (aW A 0) i) + (((nI (aP A 2 i 2 * aW A 0 1 i)) - (nI (aP A 2 i 3 * aW A 0 2 i))) - (nI (aP A 2 i 1 * aW A 0 6 i))))), some (pI (nI (i + 1))), none]) 4 rfl ?_
        have K := ih
        rw [jd_0 (by omega)] at K
        exact K
      · refine J_iload_n dX6_judged_79 rfl ?_
        refine J_aload dX6_judged_80 rfl ?_
        refine J_getI dX6_judged_82 fX6_124 (hX.th hW hi).s (fun _ => rfl) ?_
        refine J_cvI ((hX.t hi (by decide))) ?_
        refine J_aload_n dX6_judged_85 rfl ?_
        refine J_getR (r := some (117 + 1)) dX6_judged_86 fX6_17 s117 (fun _ => rfl) (hrn.e4 hG) ?_
        refine J_iconstN (n := 0) dX6_judged_89 ?_
        refine J_aald7N (r := some (117 + 2 + 0)) dX6_judged_90 hrn.s1 (by decide) (by omega) (hrn.er hG (by omega)) ?_
        refine J_iload_n dX6_judged_91 rfl ?_
        refine J_ialdN dX6_judged_92 (hrn.sr (by omega)) (by decide) (by omega) ?_
        refine J_cvI ((show _ = nI (aW A 0 0 i) from (hX.rn.2 hon).2.2.2.2 i hi 0 (by decide))) ?_
        refine J_imulN dX6_judged_93 ?_
        refine J_iadd dX6_judged_94 ?_
        refine J_istore_n (L' := [some (pR (some 117)), some (pR (some p)), some (pI (((jd (aP A) (aR A 0) (aW A 0) i) + (((nI (aP A 2 i 2 * aW A 0 1 i)) - (nI (aP A 2 i 3 * aW A 0 2 i))) - (nI (aP A 2 i 1 * aW A 0 6 i)))) + (nI (aP A 2 i 4 * aW A 0 0 i)))), some (pI (nI i)), some (pR (some (p + 9 + 7 * i)))]) dX6_judged_95 (by decide) rfl ?_
        refine J_iincN (n := 1) (L' := [some (pR (some 117)), some (pR (some p)), some (pI (((jd (aP A) (aR A 0) (aW A 0) i) + (((nI (aP A 2 i 2 * aW A 0 1 i)) - (nI (aP A 2 i 3 * aW A 0 2 i))) - (nI (aP A 2 i 1 * aW A 0 6 i)))) + (nI (aP A 2 i 4 * aW A 0 0 i)))), some (pI (nI (i + 1))), some (pR (some (p + 9 + 7 * i)))]) dX6_judged_96 rfl (by decide) rfl ?_
        refine J_goto dX6_judged_99 ?_
        refine J_drop (L' := [some (pR (some 117)), some (pR (some p)), some (pI (((jd (aP A) (aR A 0) (aW A 0) i) + (((nI (aP A 2 i 2 * aW A 0 1 i)) - (nI (aP A 2 i 3 * aW A 0 2 i))) - (nI (aP A 2 i 1 * aW A 0 6 i)))) + (nI (aP A 2 i 4 * aW A 0 0 i)))), some (pI (nI (i + 1))), none]) 4 rfl ?_
        have K := ih
        rw [jd_1 (by omega)] at K
        exact K
theorem c_X10_judged {h : PH} {A : AS} (hG : GR h.2.2) (hM : MI h A) (hW : WF A) (hon : aR A 0 0 = 1) : CtI mX10_judged h [pR (some 158)] (fun v h' => v = jd (aP A) (aR A 0) (aW A 0) (aP A 0 3 0) ∧ h' = h) := by
  have bN := hW.1
  have bk := hW.wk
  have bc := hW.cs
  have bw := hW.wn
  have bt := hW.tn
  have bf := hW.fn
  have bo : aR A 0 0 < 2 := hW.on (by decide)
  have bl : (aL A).1 < 2 := hW.2.2.2.2.1.1
  obtain ⟨hr1, hr2, hr3, hrs, hrw⟩ := (hW.rn (r := 0) (by decide)).2 hon
  refine Ct.of (L := [some (pR (some 158)), none, none]) rfl rfl (Nat.le_of_ble_eq_true rfl) rfl ?_
  refine J_iconstN (n := 0) dX10_judged_0 ?_
  refine J_istore_n (L' := [some (pR (some 158)), some (pI (nI 0)), none]) dX10_judged_1 (by decide) rfl ?_
  refine J_iconstN (n := 0) dX10_judged_2 ?_
  refine J_istore_n (L' := [some (pR (some 158)), some (pI (nI 0)), some (pI (nI 0))]) dX10_judged_3 (by decide) rfl ?_
  refine J_L (L' := [some (pR (some 158)), some (pI (jd (aP A) (aR A 0) (aW A 0) 0)), some (pI (nI 0))]) rfl ?_
  refine J_for (L := fun i => [some (pR (some 158)), some (pI (jd (aP A) (aR A 0) (aW A 0) i)), some (pI (nI i))]) (hf := fun i => h) (e := aP A 0 3 0) ?_ (fun i hi ih => ?_) 0 (by omega)
  · show J _ _ _ _ _ [some (pR (some 158)), some (pI (jd (aP A) (aR A 0) (aW A 0) (aP A 0 3 0))), some (pI (nI (aP A 0 3 0)))] _ _ (h)
    refine J_iload_n dX10_judged_4 rfl ?_
    refine J_aload_n dX10_judged_5 rfl ?_
    refine J_getR (r := some 160) dX10_judged_6 fX10_17 s158 (fun _ => rfl) (g158_12 hG) ?_
    refine J_iconstN (n := 3) dX10_judged_9 ?_
    refine J_ialdN dX10_judged_10 s160 (by decide) (by omega) ?_
    refine J_cvI ((hM.nm (k := 3) (by decide))) ?_
    refine J_icmp_geN dX10_judged_11 (by omega) (by omega) (fun c1 => ?_) (fun c1 => ?_)
    · refine J_iload_n dX10_judged_106 rfl ?_
      exact J_retI dX10_judged_107 rfl ⟨rfl, rfl⟩
    · exact (show False by omega).elim
  · show J _ _ _ _ _ [some (pR (some 158)), some (pI (jd (aP A) (aR A 0) (aW A 0) i)), some (pI (nI i))] _ _ (h)
    refine J_iload_n dX10_judged_4 rfl ?_
    refine J_aload_n dX10_judged_5 rfl ?_
    refine J_getR (r := some 160) dX10_judged_6 fX10_17 s158 (fun _ => rfl) (g158_12 hG) ?_
    refine J_iconstN (n := 3) dX10_judged_9 ?_
    refine J_ialdN dX10_judged_10 s160 (by decide) (by omega) ?_
    refine J_cvI ((hM.nm (k := 3) (by decide))) ?_
    refine J_icmp_geN dX10_judged_11 (by omega) (by omega) (fun c2 => ?_) (fun c2 => ?_)
    · exact (show False by omega).elim
    · refine J_iload_n dX10_judged_14 rfl ?_
      refine J_aload_n dX10_judged_15 rfl ?_
      refine J_iload_n dX10_judged_16 rfl ?_
      refine J_iconstN (n := 2) dX10_judged_17 ?_
      refine J_cVI (ci := 10) (c := 158) (as := [pI (nI i), pI (nI 2)]) (st := [pI (jd (aP A) (aR A 0) (aW A 0) i)]) dX10_judged_18 lX10_246 okX10_of vX10_of s158 (by decide) rfl rfl rfl (Nat.le_of_ble_eq_true rfl) ⟨Nat.le_of_ble_eq_true rfl, Nat.le_of_ble_eq_true rfl⟩ CR.f (c_X10_of hG (by omega) (by decide) (hM.t hi (by decide))) (fun vq3 gq3 eq3 => ?_)
      obtain ⟨rfl, fq3⟩ := eq3
      rw [fq3]
      refine J_aload_n dX10_judged_21 rfl ?_
      refine J_getR (r := some 184) dX10_judged_22 fX10_95 s158 (fun _ => rfl) (g158_48 hG) ?_
      refine J_bipush (x := nI 12) dX10_judged_25 (by decide) ?_
      refine J_iload_n dX10_judged_27 rfl ?_
      refine J_iaddN dX10_judged_28 ?_
      refine J_ialdN dX10_judged_29 s184 (by decide) (by omega) ?_
      refine J_cvI ((show h.1 184 (12 + i) = nI (aW A 0 1 i) from (by have z := ((hM.rn hon).1.2.2.2 i hi).1 1 (by decide); exact z))) ?_
      refine J_imulN dX10_judged_30 ?_
      refine J_aload_n dX10_judged_31 rfl ?_
      refine J_iload_n dX10_judged_32 rfl ?_
      refine J_iconstN (n := 3) dX10_judged_33 ?_
      refine J_cVI (ci := 10) (c := 158) (as := [pI (nI i), pI (nI 3)]) (st := [pI (nI (aP A 2 i 2 * aW A 0 1 i)), pI (jd (aP A) (aR A 0) (aW A 0) i)]) dX10_judged_34 lX10_246 okX10_of vX10_of s158 (by decide) rfl rfl rfl (Nat.le_of_ble_eq_true rfl) ⟨Nat.le_of_ble_eq_true rfl, Nat.le_of_ble_eq_true rfl⟩ CR.f (c_X10_of hG (by omega) (by decide) (hM.t hi (by decide))) (fun vq4 gq4 eq4 => ?_)
      obtain ⟨rfl, fq4⟩ := eq4
      rw [fq4]
      refine J_aload_n dX10_judged_37 rfl ?_
      refine J_getR (r := some 184) dX10_judged_38 fX10_95 s158 (fun _ => rfl) (g158_48 hG) ?_
      refine J_bipush (x := nI 16) dX10_judged_41 (by decide) ?_
      refine J_iload_n dX10_judged_43 rfl ?_
      refine J_iaddN dX10_judged_44 ?_
      refine J_ialdN dX10_judged_45 s184 (by decide) (by omega) ?_
      refine J_cvI ((show h.1 184 (16 + i) = nI (aW A 0 2 i) from (by have z := ((hM.rn hon).1.2.2.2 i hi).1 2 (by decide); exact z))) ?_
      refine J_imulN dX10_judged_46 ?_
      refine J_isub dX10_judged_47 ?_
      refine J_aload_n dX10_judged_48 rfl ?_
      refine J_iload_n dX10_judged_49 rfl ?_
      refine J_iconstN (n := 1) dX10_judged_50 ?_
      refine J_cVI (ci := 10) (c := 158) (as := [pI (nI i), pI (nI 1)]) (st := [pI ((nI (aP A 2 i 2 * aW A 0 1 i)) - (nI (aP A 2 i 3 * aW A 0 2 i))), pI (jd (aP A) (aR A 0) (aW A 0) i)]) dX10_judged_51 lX10_246 okX10_of vX10_of s158 (by decide) rfl rfl rfl (Nat.le_of_ble_eq_true rfl) ⟨Nat.le_of_ble_eq_true rfl, Nat.le_of_ble_eq_true rfl⟩ CR.f (c_X10_of hG (by omega) (by decide) (hM.t hi (by decide))) (fun vq5 gq5 eq5 => ?_)
      obtain ⟨rfl, fq5⟩ := eq5
      rw [fq5]
      refine J_aload_n dX10_judged_54 rfl ?_
      refine J_getR (r := some 184) dX10_judged_55 fX10_95 s158 (fun _ => rfl) (g158_48 hG) ?_
      refine J_iconstN (n := 4) dX10_judged_58 ?_
      refine J_iload_n dX10_judged_59 rfl ?_
      refine J_iaddN dX10_judged_60 ?_
      refine J_ialdN dX10_judged_61 s184 (by decide) (by omega) ?_
      refine J_cvI ((show h.1 184 (4 + i) = nI (aW A 0 6 i) from (by have z := ((hM.rn hon).1.2.2.2 i hi).2; rw [Nat.zero_add] at z; exact z))) ?_
      refine J_imulN dX10_judged_62 ?_
      refine J_isub dX10_judged_63 ?_
      refine J_iadd dX10_judged_64 ?_
      refine J_istore_n (L' := [some (pR (some 158)), some (pI ((jd (aP A) (aR A 0) (aW A 0) i) + (((nI (aP A 2 i 2 * aW A 0 1 i)) - (nI (aP A 2 i 3 * aW A 0 2 i))) - (nI (aP A 2 i 1 * aW A 0 6 i))))), some (pI (nI i))]) dX10_judged_65 (by decide) rfl ?_
      refine J_aload_n dX10_judged_66 rfl ?_
      refine J_getR (r := some 184) dX10_judged_67 fX10_95 s158 (fun _ => rfl) (g158_48 hG) ?_
      refine J_iconstN (n := 2) dX10_judged_70 ?_
      refine J_ialdN dX10_judged_71 s184 (by decide) (by omega) ?_
      refine J_cvI ((show h.1 184 2 = nI (aR A 0 2) from (hM.rn hon).1.2.1)) ?_
      refine J_aload_n dX10_judged_72 rfl ?_
      refine J_getR (r := some 160) dX10_judged_73 fX10_17 s158 (fun _ => rfl) (g158_12 hG) ?_
      refine J_iconstN (n := 0) dX10_judged_76 ?_
      refine J_ialdN dX10_judged_77 s160 (by decide) (by omega) ?_
      refine J_cvI ((hM.nm (k := 0) (by decide))) ?_
      refine J_icmp_neN dX10_judged_78 (by omega) (by omega) (fun c6 => ?_) (fun c6 => ?_)
      · refine J_iincN (n := 1) (L' := [some (pR (some 158)), some (pI ((jd (aP A) (aR A 0) (aW A 0) i) + (((nI (aP A 2 i 2 * aW A 0 1 i)) - (nI (aP A 2 i 3 * aW A 0 2 i))) - (nI (aP A 2 i 1 * aW A 0 6 i))))), some (pI (nI (i + 1)))]) dX10_judged_100 rfl (by decide) rfl ?_
        refine J_goto dX10_judged_103 ?_
        have K := ih
        rw [jd_0 (by omega)] at K
        exact K
      · refine J_iload_n dX10_judged_81 rfl ?_
        refine J_aload_n dX10_judged_82 rfl ?_
        refine J_iload_n dX10_judged_83 rfl ?_
        refine J_iconstN (n := 4) dX10_judged_84 ?_
        refine J_cVI (ci := 10) (c := 158) (as := [pI (nI i), pI (nI 4)]) (st := [pI ((jd (aP A) (aR A 0) (aW A 0) i) + (((nI (aP A 2 i 2 * aW A 0 1 i)) - (nI (aP A 2 i 3 * aW A 0 2 i))) - (nI (aP A 2 i 1 * aW A 0 6 i))))]) dX10_judged_85 lX10_246 okX10_of vX10_of s158 (by decide) rfl rfl rfl (Nat.le_of_ble_eq_true rfl) ⟨Nat.le_of_ble_eq_true rfl, Nat.le_of_ble_eq_true rfl⟩ CR.f (c_X10_of hG (by omega) (by decide) (hM.t hi (by decide))) (fun vq7 gq7 eq7 => ?_)
        obtain ⟨rfl, fq7⟩ := eq7
        rw [fq7]
        refine J_aload_n dX10_judged_88 rfl ?_
        refine J_getR (r := some 184) dX10_judged_89 fX10_95 s158 (fun _ => rfl) (g158_48 hG) ?_
        refine J_bipush (x := nI 8) dX10_judged_92 (by decide) ?_
        refine J_iload_n dX10_judged_94 rfl ?_
        refine J_iaddN dX10_judged_95 ?_
        refine J_ialdN dX10_judged_96 s184 (by decide) (by omega) ?_
        refine J_cvI ((show h.1 184 (8 + i) = nI (aW A 0 0 i) from (by have z := ((hM.rn hon).1.2.2.2 i hi).1 0 (by decide); exact z))) ?_
        refine J_imulN dX10_judged_97 ?_
        refine J_iadd dX10_judged_98 ?_
        refine J_istore_n (L' := [some (pR (some 158)), some (pI (((jd (aP A) (aR A 0) (aW A 0) i) + (((nI (aP A 2 i 2 * aW A 0 1 i)) - (nI (aP A 2 i 3 * aW A 0 2 i))) - (nI (aP A 2 i 1 * aW A 0 6 i)))) + (nI (aP A 2 i 4 * aW A 0 0 i)))), some (pI (nI i))]) dX10_judged_99 (by decide) rfl ?_
        refine J_iincN (n := 1) (L' := [some (pR (some 158)), some (pI (((jd (aP A) (aR A 0) (aW A 0) i) + (((nI (aP A 2 i 2 * aW A 0 1 i)) - (nI (aP A 2 i 3 * aW A 0 2 i))) - (nI (aP A 2 i 1 * aW A 0 6 i)))) + (nI (aP A 2 i 4 * aW A 0 0 i)))), some (pI (nI (i + 1)))]) dX10_judged_100 rfl (by decide) rfl ?_
        refine J_goto dX10_judged_103 ?_
        have K := ih
        rw [jd_1 (by omega)] at K
        exact K
theorem c_X9_ran_off {h : PH} {p : Nat} {A : AS} {x : Int32} (hG : GR h.2.2) (hX : XI h p A) (hW : WF A) (hof : ¬ aR A 0 0 = 1) : CtI mX9_ran h [pR (some 0), pI x] (fun v h' => v = -1000000 ∧ XP h h' p A) := by
  have bN := hW.1
  have bk := hW.wk
  have bc := hW.cs
  have bw := hW.wn
  have bt := hW.tn
  have bf := hW.fn
  have hrn : IsRn 117 := Or.inl rfl
  have bo : aR A 0 0 < 2 := hW.on (by decide)
  have bl : (aL A).1 < 2 := hW.2.2.2.2.1.1
  refine Ct.of (L := [some (pR (some 0)), some (pI x)]) rfl rfl (Nat.le_of_ble_eq_true rfl) rfl ?_
  refine J_aload_n dX9_ran_0 rfl ?_
  refine J_getR (r := some 117) dX9_ran_1 fX9_62 s0 (fun _ => rfl) (g0_9 hG) ?_
  refine J_getI dX9_ran_4 fX9_95 s117 (fun _ => rfl) ?_
  refine J_cvI (hX.rn.1) ?_
  refine J_if_neN dX9_ran_7 (by omega) (fun c1 => ?_) (fun c1 => ?_)
  · exact (show False by omega).elim
  · refine J_ldcw dX9_ran_10 kX9_322 ?_
    exact J_retI dX9_ran_13 rfl ⟨rfl, hX, Fr.rf⟩
theorem c_X9_ran_0 {h : PH} {p : Nat} {A : AS} (hG : GR h.2.2) (hX : XI h p A) (hW : WF A) (hon : aR A 0 0 = 1) : CtI mX9_ran h [pR (some 0), pI (nI 0)] (fun v h' => v = nI (aR A 0 2) ∧ XP h h' p A) := by
  have bN := hW.1
  have bk := hW.wk
  have bc := hW.cs
  have bw := hW.wn
  have bt := hW.tn
  have bf := hW.fn
  have hrn : IsRn 117 := Or.inl rfl
  have bo : aR A 0 0 < 2 := hW.on (by decide)
  have bl : (aL A).1 < 2 := hW.2.2.2.2.1.1
  refine Ct.of (L := [some (pR (some 0)), some (pI (nI 0))]) rfl rfl (Nat.le_of_ble_eq_true rfl) rfl ?_
  refine J_aload_n dX9_ran_0 rfl ?_
  refine J_getR (r := some 117) dX9_ran_1 fX9_62 s0 (fun _ => rfl) (g0_9 hG) ?_
  refine J_getI dX9_ran_4 fX9_95 s117 (fun _ => rfl) ?_
  refine J_cvI (hX.rn.1) ?_
  refine J_if_neN dX9_ran_7 (by omega) (fun c1 => ?_) (fun c1 => ?_)
  · refine J_iload_n dX9_ran_14 rfl ?_
    refine J_tabIn (tgt := 40) (0) dX9_ran_15 (by decide) (by decide) (by decide) rfl rfl ?_
    refine J_aload_n dX9_ran_40 rfl ?_
    refine J_getR (r := some 117) dX9_ran_41 fX9_62 s0 (fun _ => rfl) (g0_9 hG) ?_
    refine J_getI dX9_ran_44 fX9_312 s117 (fun _ => rfl) ?_
    refine J_cvI ((hX.rn.2 hon).2.1) ?_
    exact J_retI dX9_ran_47 rfl ⟨rfl, hX, Fr.rf⟩
  · exact (show False by omega).elim
theorem c_X9_ran_1 {h : PH} {p : Nat} {A : AS} (hG : GR h.2.2) (hX : XI h p A) (hW : WF A) (hon : aR A 0 0 = 1) : CtI mX9_ran h [pR (some 0), pI (nI 1)] (fun v h' => v = hlp (aR A 0 3) ∧ XP h h' p A) := by
  have bN := hW.1
  have bk := hW.wk
  have bc := hW.cs
  have bw := hW.wn
  have bt := hW.tn
  have bf := hW.fn
  have hrn : IsRn 117 := Or.inl rfl
  have bo : aR A 0 0 < 2 := hW.on (by decide)
  have bl : (aL A).1 < 2 := hW.2.2.2.2.1.1
  refine Ct.of (L := [some (pR (some 0)), some (pI (nI 1))]) rfl rfl (Nat.le_of_ble_eq_true rfl) rfl ?_
  refine J_aload_n dX9_ran_0 rfl ?_
  refine J_getR (r := some 117) dX9_ran_1 fX9_62 s0 (fun _ => rfl) (g0_9 hG) ?_
  refine J_getI dX9_ran_4 fX9_95 s117 (fun _ => rfl) ?_
  refine J_cvI (hX.rn.1) ?_
  refine J_if_neN dX9_ran_7 (by omega) (fun c1 => ?_) (fun c1 => ?_)
  · refine J_iload_n dX9_ran_14 rfl ?_
    refine J_tabIn (tgt := 48) (1) dX9_ran_15 (by decide) (by decide) (by decide) rfl rfl ?_
    refine J_aload_n dX9_ran_48 rfl ?_
    refine J_getR (r := some 117) dX9_ran_49 fX9_62 s0 (fun _ => rfl) (g0_9 hG) ?_
    refine J_getI dX9_ran_52 fX9_323 s117 (fun _ => rfl) ?_
    refine J_cvI ((hX.rn.2 hon).2.2.1) ?_
    exact J_retI dX9_ran_55 rfl ⟨rfl, hX, Fr.rf⟩
  · exact (show False by omega).elim
theorem c_X9_ran_2 {h : PH} {p : Nat} {A : AS} (hG : GR h.2.2) (hX : XI h p A) (hW : WF A) (hon : aR A 0 0 = 1) : CtI mX9_ran h [pR (some 0), pI (nI 2)] (fun v h' => v = jd (aP A) (aR A 0) (aW A 0) (aP A 0 3 0) ∧ XP h h' p A) := by
  have bN := hW.1
  have bk := hW.wk
  have bc := hW.cs
  have bw := hW.wn
  have bt := hW.tn
  have bf := hW.fn
  have hrn : IsRn 117 := Or.inl rfl
  have bo : aR A 0 0 < 2 := hW.on (by decide)
  have bl : (aL A).1 < 2 := hW.2.2.2.2.1.1
  refine Ct.of (L := [some (pR (some 0)), some (pI (nI 2))]) rfl rfl (Nat.le_of_ble_eq_true rfl) rfl ?_
  refine J_aload_n dX9_ran_0 rfl ?_
  refine J_getR (r := some 117) dX9_ran_1 fX9_62 s0 (fun _ => rfl) (g0_9 hG) ?_
  refine J_getI dX9_ran_4 fX9_95 s117 (fun _ => rfl) ?_
  refine J_cvI (hX.rn.1) ?_
  refine J_if_neN dX9_ran_7 (by omega) (fun c1 => ?_) (fun c1 => ?_)
  · refine J_iload_n dX9_ran_14 rfl ?_
    refine J_tabIn (tgt := 56) (2) dX9_ran_15 (by decide) (by decide) (by decide) rfl rfl ?_
    refine J_aload_n dX9_ran_56 rfl ?_
    refine J_getR (r := some 117) dX9_ran_57 fX9_62 s0 (fun _ => rfl) (g0_9 hG) ?_
    refine J_aload_n dX9_ran_60 rfl ?_
    refine J_getR (r := some p) dX9_ran_61 fX9_20 s0 (fun _ => rfl) (hX.cu) ?_
    refine J_cVI (ci := 6) (c := 117) (as := [pR (some p)]) (st := []) dX9_ran_64 lX9_325 okX6_judged vX6_judged s117 (by decide) rfl rfl rfl (Nat.le_of_ble_eq_true rfl) ⟨Nat.le_of_ble_eq_true rfl, Nat.le_of_ble_eq_true rfl⟩ CR.f (c_X6_judged hG hX hW hon) (fun vq3 gq3 eq3 => ?_)
    obtain ⟨rfl, fq3⟩ := eq3
    rw [fq3]
    exact J_retI dX9_ran_67 rfl ⟨rfl, hX, Fr.rf⟩
  · exact (show False by omega).elim
theorem c_X9_ran_no {h : PH} {p : Nat} {A : AS} {x : Int32} (hG : GR h.2.2) (hX : XI h p A) (hW : WF A) (hon : aR A 0 0 = 1) (h0 : ¬ x.toInt = 0) (h1 : ¬ x.toInt = 1) (h2 : ¬ x.toInt = 2) : CtI mX9_ran h [pR (some 0), pI x] (fun v h' => v = -1000000 ∧ XP h h' p A) := by
  have bN := hW.1
  have bk := hW.wk
  have bc := hW.cs
  have bw := hW.wn
  have bt := hW.tn
  have bf := hW.fn
  have hrn : IsRn 117 := Or.inl rfl
  have bo : aR A 0 0 < 2 := hW.on (by decide)
  have bl : (aL A).1 < 2 := hW.2.2.2.2.1.1
  refine Ct.of (L := [some (pR (some 0)), some (pI x)]) rfl rfl (Nat.le_of_ble_eq_true rfl) rfl ?_
  refine J_aload_n dX9_ran_0 rfl ?_
  refine J_getR (r := some 117) dX9_ran_1 fX9_62 s0 (fun _ => rfl) (g0_9 hG) ?_
  refine J_getI dX9_ran_4 fX9_95 s117 (fun _ => rfl) ?_
  refine J_cvI (hX.rn.1) ?_
  refine J_if_neN dX9_ran_7 (by omega) (fun c1 => ?_) (fun c1 => ?_)
  · refine J_iload_n dX9_ran_14 rfl ?_
    by_cases c2 : (x).toInt = 0
    · exact (show False by omega).elim
    have c2_0 := c2
    clear c2
    by_cases c2 : (x).toInt = 1
    · exact (show False by omega).elim
    have c2_1 := c2
    clear c2
    by_cases c2 : (x).toInt = 2
    · exact (show False by omega).elim
    have c2_2 := c2
    clear c2
    refine J_tabOut (tgt := 68) dX9_ran_15 (by omega) rfl ?_
    refine J_ldcw dX9_ran_68 kX9_322 ?_
    exact J_retI dX9_ran_71 rfl ⟨rfl, hX, Fr.rf⟩
  · exact (show False by omega).elim
theorem c_X9_ran {h : PH} {p : Nat} {A : AS} {x : Int32} (hG : GR h.2.2) (hX : XI h p A) (hW : WF A) : CtI mX9_ran h [pR (some 0), pI x] (fun v h' => v = ranA A x ∧ XP h h' p A) := by
  by_cases hon : aR A 0 0 = 1
  · rw [ranA, if_pos hon]
    by_cases h0 : x = 0
    · rw [if_pos h0, h0]
      exact c_X9_ran_0 hG hX hW hon
    · rw [if_neg h0]
      by_cases h1 : x = nI 1
      · rw [if_pos h1, h1]
        exact c_X9_ran_1 hG hX hW hon
      · rw [if_neg h1]
        by_cases h2 : x = nI 2
        · rw [if_pos h2, h2]
          exact c_X9_ran_2 hG hX hW hon
        · rw [if_neg h2]
          exact c_X9_ran_no hG hX hW hon (fun z => h0 (Int32.toInt_inj.mp z)) (fun z => h1 (Int32.toInt_inj.mp (z.trans tn1.symm))) (fun z => h2 (Int32.toInt_inj.mp (z.trans tn2.symm)))
  · rw [ranA, if_neg hon]
    exact c_X9_ran_off hG hX hW hon
theorem c_X10_ran_off {h : PH} {A : AS} {x : Int32} (hG : GR h.2.2) (hM : MI h A) (hW : WF A) (hof : ¬ aR A 0 0 = 1) : CtI mX10_ran h [pR (some 158), pI x] (fun v h' => v = -1000000 ∧ MP h h' A) := by
  have bN := hW.1
  have bk := hW.wk
  have bc := hW.cs
  have bw := hW.wn
  have bt := hW.tn
  have bf := hW.fn
  have bo : aR A 0 0 < 2 := hW.on (by decide)
  have bl : (aL A).1 < 2 := hW.2.2.2.2.1.1
  refine Ct.of (L := [some (pR (some 158)), some (pI x)]) rfl rfl (Nat.le_of_ble_eq_true rfl) rfl ?_
  refine J_aload_n dX10_ran_0 rfl ?_
  refine J_getR (r := some 184) dX10_ran_1 fX10_95 s158 (fun _ => rfl) (g158_48 hG) ?_
  refine J_iconstN (n := 0) dX10_ran_4 ?_
  refine J_ialdN dX10_ran_5 s184 (by decide) (by omega) ?_
  refine J_cvI (hM.2.2.2.2.2.1.1) ?_
  refine J_if_neN dX10_ran_6 (by omega) (fun c1 => ?_) (fun c1 => ?_)
  · exact (show False by omega).elim
  · refine J_ldcw dX10_ran_9 kX10_388 ?_
    refine J_goto dX10_ran_12 ?_
    exact J_retI dX10_ran_57 rfl ⟨rfl, hM, Fr.rf⟩
theorem c_X10_ran_0 {h : PH} {A : AS} (hG : GR h.2.2) (hM : MI h A) (hW : WF A) (hon : aR A 0 0 = 1) : CtI mX10_ran h [pR (some 158), pI (nI 0)] (fun v h' => v = nI (aR A 0 2) ∧ MP h h' A) := by
  have bN := hW.1
  have bk := hW.wk
  have bc := hW.cs
  have bw := hW.wn
  have bt := hW.tn
  have bf := hW.fn
  have bo : aR A 0 0 < 2 := hW.on (by decide)
  have bl : (aL A).1 < 2 := hW.2.2.2.2.1.1
  refine Ct.of (L := [some (pR (some 158)), some (pI (nI 0))]) rfl rfl (Nat.le_of_ble_eq_true rfl) rfl ?_
  refine J_aload_n dX10_ran_0 rfl ?_
  refine J_getR (r := some 184) dX10_ran_1 fX10_95 s158 (fun _ => rfl) (g158_48 hG) ?_
  refine J_iconstN (n := 0) dX10_ran_4 ?_
  refine J_ialdN dX10_ran_5 s184 (by decide) (by omega) ?_
  refine J_cvI (hM.2.2.2.2.2.1.1) ?_
  refine J_if_neN dX10_ran_6 (by omega) (fun c1 => ?_) (fun c1 => ?_)
  · refine J_iload_n dX10_ran_15 rfl ?_
    refine J_if_ne dX10_ran_16 (fun c0 => absurd c0 (by decide)) (fun c0 => ?_)
    refine J_aload_n dX10_ran_19 rfl ?_
    refine J_getR (r := some 184) dX10_ran_20 fX10_95 s158 (fun _ => rfl) (g158_48 hG) ?_
    refine J_iconstN (n := 2) dX10_ran_23 ?_
    refine J_ialdN dX10_ran_24 s184 (by decide) (by omega) ?_
    refine J_cvI ((show h.1 184 2 = nI (aR A 0 2) from (hM.rn hon).1.2.1)) ?_
    refine J_goto dX10_ran_25 ?_
    exact J_retI dX10_ran_57 rfl ⟨rfl, hM, Fr.rf⟩
  · exact (show False by omega).elim
theorem c_X10_ran_1 {h : PH} {A : AS} (hG : GR h.2.2) (hM : MI h A) (hW : WF A) (hon : aR A 0 0 = 1) : CtI mX10_ran h [pR (some 158), pI (nI 1)] (fun v h' => v = hlp (aR A 0 3) ∧ MP h h' A) := by
  have bN := hW.1
  have bk := hW.wk
  have bc := hW.cs
  have bw := hW.wn
  have bt := hW.tn
  have bf := hW.fn
  have bo : aR A 0 0 < 2 := hW.on (by decide)
  have bl : (aL A).1 < 2 := hW.2.2.2.2.1.1
  refine Ct.of (L := [some (pR (some 158)), some (pI (nI 1))]) rfl rfl (Nat.le_of_ble_eq_true rfl) rfl ?_
  refine J_aload_n dX10_ran_0 rfl ?_
  refine J_getR (r := some 184) dX10_ran_1 fX10_95 s158 (fun _ => rfl) (g158_48 hG) ?_
  refine J_iconstN (n := 0) dX10_ran_4 ?_
  refine J_ialdN dX10_ran_5 s184 (by decide) (by omega) ?_
  refine J_cvI (hM.2.2.2.2.2.1.1) ?_
  refine J_if_neN dX10_ran_6 (by omega) (fun c1 => ?_) (fun c1 => ?_)
  · refine J_iload_n dX10_ran_15 rfl ?_
    refine J_if_ne dX10_ran_16 (fun c0 => ?_) (fun c0 => absurd c0 (by decide))
    refine J_iload_n dX10_ran_28 rfl ?_
    refine J_iconstN (n := 1) dX10_ran_29 ?_
    refine J_icmp_neN dX10_ran_30 (by decide) (by decide) (fun c0 => absurd c0 (by decide)) (fun c0 => ?_)
    refine J_aload_n dX10_ran_33 rfl ?_
    refine J_getR (r := some 184) dX10_ran_34 fX10_95 s158 (fun _ => rfl) (g158_48 hG) ?_
    refine J_iconstN (n := 3) dX10_ran_37 ?_
    refine J_ialdN dX10_ran_38 s184 (by decide) (by omega) ?_
    refine J_cvI ((show h.1 184 3 = hlp (aR A 0 3) from (hM.rn hon).1.2.2.1)) ?_
    refine J_goto dX10_ran_39 ?_
    exact J_retI dX10_ran_57 rfl ⟨rfl, hM, Fr.rf⟩
  · exact (show False by omega).elim
theorem c_X10_ran_2 {h : PH} {A : AS} (hG : GR h.2.2) (hM : MI h A) (hW : WF A) (hon : aR A 0 0 = 1) : CtI mX10_ran h [pR (some 158), pI (nI 2)] (fun v h' => v = jd (aP A) (aR A 0) (aW A 0) (aP A 0 3 0) ∧ MP h h' A) := by
  have bN := hW.1
  have bk := hW.wk
  have bc := hW.cs
  have bw := hW.wn
  have bt := hW.tn
  have bf := hW.fn
  have bo : aR A 0 0 < 2 := hW.on (by decide)
  have bl : (aL A).1 < 2 := hW.2.2.2.2.1.1
  refine Ct.of (L := [some (pR (some 158)), some (pI (nI 2))]) rfl rfl (Nat.le_of_ble_eq_true rfl) rfl ?_
  refine J_aload_n dX10_ran_0 rfl ?_
  refine J_getR (r := some 184) dX10_ran_1 fX10_95 s158 (fun _ => rfl) (g158_48 hG) ?_
  refine J_iconstN (n := 0) dX10_ran_4 ?_
  refine J_ialdN dX10_ran_5 s184 (by decide) (by omega) ?_
  refine J_cvI (hM.2.2.2.2.2.1.1) ?_
  refine J_if_neN dX10_ran_6 (by omega) (fun c1 => ?_) (fun c1 => ?_)
  · refine J_iload_n dX10_ran_15 rfl ?_
    refine J_if_ne dX10_ran_16 (fun c0 => ?_) (fun c0 => absurd c0 (by decide))
    refine J_iload_n dX10_ran_28 rfl ?_
    refine J_iconstN (n := 1) dX10_ran_29 ?_
    refine J_icmp_neN dX10_ran_30 (by decide) (by decide) (fun c0 => ?_) (fun c0 => absurd c0 (by decide))
    refine J_iload_n dX10_ran_42 rfl ?_
    refine J_iconstN (n := 2) dX10_ran_43 ?_
    refine J_icmp_neN dX10_ran_44 (by decide) (by decide) (fun c0 => absurd c0 (by decide)) (fun c0 => ?_)
    refine J_aload_n dX10_ran_47 rfl ?_
    refine J_cVI (ci := 10) (c := 158) (as := []) (st := []) dX10_ran_48 lX10_389 okX10_judged vX10_judged s158 (by decide) rfl rfl rfl (Nat.le_of_ble_eq_true rfl) ⟨Nat.le_of_ble_eq_true rfl, Nat.le_of_ble_eq_true rfl⟩ CR.f (c_X10_judged hG hM hW hon) (fun vq2 gq2 eq2 => ?_)
    obtain ⟨rfl, fq2⟩ := eq2
    rw [fq2]
    refine J_goto dX10_ran_51 ?_
    exact J_retI dX10_ran_57 rfl ⟨rfl, hM, Fr.rf⟩
  · exact (show False by omega).elim
theorem c_X10_ran_no {h : PH} {A : AS} {x : Int32} (hG : GR h.2.2) (hM : MI h A) (hW : WF A) (hon : aR A 0 0 = 1) (h0 : ¬ x.toInt = 0) (h1 : ¬ x.toInt = 1) (h2 : ¬ x.toInt = 2) : CtI mX10_ran h [pR (some 158), pI x] (fun v h' => v = -1000000 ∧ MP h h' A) := by
  have bN := hW.1
  have bk := hW.wk
  have bc := hW.cs
  have bw := hW.wn
  have bt := hW.tn
  have bf := hW.fn
  have bo : aR A 0 0 < 2 := hW.on (by decide)
  have bl : (aL A).1 < 2 := hW.2.2.2.2.1.1
  refine Ct.of (L := [some (pR (some 158)), some (pI x)]) rfl rfl (Nat.le_of_ble_eq_true rfl) rfl ?_
  refine J_aload_n dX10_ran_0 rfl ?_
  refine J_getR (r := some 184) dX10_ran_1 fX10_95 s158 (fun _ => rfl) (g158_48 hG) ?_
  refine J_iconstN (n := 0) dX10_ran_4 ?_
  refine J_ialdN dX10_ran_5 s184 (by decide) (by omega) ?_
  refine J_cvI (hM.2.2.2.2.2.1.1) ?_
  refine J_if_neN dX10_ran_6 (by omega) (fun c1 => ?_) (fun c1 => ?_)
  · refine J_iload_n dX10_ran_15 rfl ?_
    refine J_if_ne dX10_ran_16 (fun c2 => ?_) (fun c2 => ?_)
    · refine J_iload_n dX10_ran_28 rfl ?_
      refine J_iconstN (n := 1) dX10_ran_29 ?_
      refine J_icmp_ne dX10_ran_30 (fun c3 => ?_) (fun c3 => ?_)
      · refine J_iload_n dX10_ran_42 rfl ?_
        refine J_iconstN (n := 2) dX10_ran_43 ?_
        refine J_icmp_ne dX10_ran_44 (fun c4 => ?_) (fun c4 => ?_)
        · refine J_ldcw dX10_ran_54 kX10_388 ?_
          exact J_retI dX10_ran_57 rfl ⟨rfl, hM, Fr.rf⟩
        · exact absurd (by rw [c4]; rfl) h2
      · exact absurd (by rw [c3]; rfl) h1
    · exact absurd (by rw [c2]; rfl) h0
  · exact (show False by omega).elim
theorem c_X10_ran {h : PH} {A : AS} {x : Int32} (hG : GR h.2.2) (hM : MI h A) (hW : WF A) : CtI mX10_ran h [pR (some 158), pI x] (fun v h' => v = ranA A x ∧ MP h h' A) := by
  by_cases hon : aR A 0 0 = 1
  · rw [ranA, if_pos hon]
    by_cases h0 : x = 0
    · rw [if_pos h0, h0]
      exact c_X10_ran_0 hG hM hW hon
    · rw [if_neg h0]
      by_cases h1 : x = nI 1
      · rw [if_pos h1, h1]
        exact c_X10_ran_1 hG hM hW hon
      · rw [if_neg h1]
        by_cases h2 : x = nI 2
        · rw [if_pos h2, h2]
          exact c_X10_ran_2 hG hM hW hon
        · rw [if_neg h2]
          exact c_X10_ran_no hG hM hW hon (fun z => h0 (Int32.toInt_inj.mp z)) (fun z => h1 (Int32.toInt_inj.mp (z.trans tn1.symm))) (fun z => h2 (Int32.toInt_inj.mp (z.trans tn2.symm)))
  · rw [ranA, if_neg hon]
    exact c_X10_ran_off hG hM hW hon
theorem IsRn.ap {c d : Nat} (hc : IsRn c) (hd : IsRn d) (hne : c ≠ d) : c + 9 < d ∨ d + 9 < c := by
  rcases hc with rfl | rfl | rfl | rfl <;> rcases hd with rfl | rfl | rfl | rfl <;> omega
/-- c has become as d was -/
def BeA (c d : Nat) (h h' : PH) : Prop := (h'.1 c 0 = nI 1 ∧ h'.1 c 1 = h.1 d 1 ∧ h'.1 c 2 = h.1 d 2 ∧ h'.1 c 3 = h.1 d 3 ∧ h'.2.1 c 5 = h.2.1 d 5) ∧ (∀ j, j < 7 → ∀ t, t < 4 → h'.1 (c + 2 + j) t = h.1 (d + 2 + j) t) ∧ Fr c (c + 9) h h'
theorem RnX.be {c d : Nat} {h h' : PH} {P : PD} {R : Nat → Nat} {W : Nat → Nat → Nat} {s : Nat} (a : RnX h d P R W s) (b : BeA c d h h') (hT : P 0 3 0 ≤ 4) (hon : R 0 = 1) : RnX h' c P R W s := by
  obtain ⟨b0, b1, b2⟩ := b
  have z := a.2 hon
  exact ⟨b0.1.trans (by rw [hon]), fun _ => ⟨b0.2.1.trans z.1, b0.2.2.1.trans z.2.1, b0.2.2.2.1.trans z.2.2.1, b0.2.2.2.2.trans z.2.2.2.1, fun t ht i hi => (b1 i hi t (Nat.lt_of_lt_of_le ht hT)).trans (z.2.2.2.2 t ht i hi)⟩⟩
theorem c_X6_becomeAs {h : PH} {c d : Nat} (hG : GR h.2.2) (hc : IsRn c) (hd : IsRn d) (hne : c ≠ d) (h0 : h.1 d 0 = nI 1) : CtV mX6_becomeAs h [pR (some c), pR (some d)] (fun h' => BeA c d h h') := by
  have hap := hc.ap hd hne
  have bc := hc.lt
  have bd := hd.lt
  refine Ct.of (L := [some (pR (some c)), some (pR (some d)), none]) rfl rfl (Nat.le_of_ble_eq_true rfl) rfl ?_
  refine J_aload_n dX6_becomeAs_0 rfl ?_
  refine J_aload_n dX6_becomeAs_1 rfl ?_
  refine J_getI dX6_becomeAs_2 fX6_9 hd.s (fun _ => rfl) ?_
  refine J_cvI (h0) ?_
  refine J_putI dX6_becomeAs_5 fX6_9 hc.s rfl rfl rfl (fun _ _ => rfl) ?_
  refine J_aload_n dX6_becomeAs_8 rfl ?_
  refine J_aload_n dX6_becomeAs_9 rfl ?_
  refine J_getI dX6_becomeAs_10 fX6_42 hd.s (fun _ => rfl) ?_
  refine J_cvI (y := h.1 d 1) ((rI_c (by omega))) ?_
  refine J_putI dX6_becomeAs_13 fX6_42 hc.s rfl (vp_nar_int _) rfl (fun _ _ => rfl) ?_
  refine J_aload_n dX6_becomeAs_16 rfl ?_
  refine J_aload_n dX6_becomeAs_17 rfl ?_
  refine J_getI dX6_becomeAs_18 fX6_31 hd.s (fun _ => rfl) ?_
  refine J_cvI (y := h.1 d 2) ((rI_c (by omega)).trans ((rI_c (by omega)))) ?_
  refine J_putI dX6_becomeAs_21 fX6_31 hc.s rfl (vp_nar_int _) rfl (fun _ _ => rfl) ?_
  refine J_aload_n dX6_becomeAs_24 rfl ?_
  refine J_aload_n dX6_becomeAs_25 rfl ?_
  refine J_getI dX6_becomeAs_26 fX6_35 hd.s (fun _ => rfl) ?_
  refine J_cvI (y := h.1 d 3) ((rI_c (by omega)).trans ((rI_c (by omega)).trans ((rI_c (by omega))))) ?_
  refine J_putI dX6_becomeAs_29 fX6_35 hc.s rfl (vp_nar_int _) rfl (fun _ _ => rfl) ?_
  refine J_aload_n dX6_becomeAs_32 rfl ?_
  refine J_aload_n dX6_becomeAs_33 rfl ?_
  refine J_getL dX6_becomeAs_34 fX6_27 hd.s (fun _ => rfl) ?_
  refine J_cvL (y := h.2.1 d 5) ((xLI).trans ((xLI).trans ((xLI).trans (xLI)))) ?_
  refine J_putL dX6_becomeAs_37 fX6_27 hc.s rfl rfl ?_
  refine J_iconstN (n := 0) dX6_becomeAs_40 ?_
  refine J_istore_n (L' := [some (pR (some c)), some (pR (some d)), some (pI (nI 0))]) dX6_becomeAs_41 (by decide) rfl ?_
  refine J_L (L' := [some (pR (some c)), some (pR (some d)), some (pI (nI 0))]) rfl ?_
  generalize hg : sL (sI (sI (sI (sI (h) c 0 (nI 1)) c 1 (h.1 d 1)) c 2 (h.1 d 2)) c 3 (h.1 d 3)) c 5 (h.2.1 d 5) = g
  have g0 : g.1 c 0 = nI 1 ∧ g.1 c 1 = h.1 d 1 ∧ g.1 c 2 = h.1 d 2 ∧ g.1 c 3 = h.1 d 3 ∧ g.2.1 c 5 = h.2.1 d 5 := by rw [← hg]; exact ⟨(rI_k (by decide)).trans ((rI_k (by decide)).trans ((rI_k (by decide)).trans rI_s)), (rI_k (by decide)).trans ((rI_k (by decide)).trans rI_s), (rI_k (by decide)).trans rI_s, rI_s, rL_s⟩
  have gf : Fr c c h g := by rw [← hg]; exact (((((Fr.sI (Nat.le_refl c) (Nat.le_refl c)).tr (Fr.sI (Nat.le_refl c) (Nat.le_refl c))).tr (Fr.sI (Nat.le_refl c) (Nat.le_refl c))).tr (Fr.sI (Nat.le_refl c) (Nat.le_refl c))).tr (Fr.sL (Nat.le_refl c) (Nat.le_refl c)))
  have hG0 : GR g.2.2 := gf.g hG
  refine J_forI (α := Unit) (L := fun i1 aa1 => [some (pR (some c)), some (pR (some d)), some (pI (nI i1))]) (fun i1 aa1 h1 => (∀ j, j < i1 → ∀ t, t < 4 → h1.1 (c + 2 + j) t = h.1 (d + 2 + j) t) ∧ Fr (c + 2) (c + 8) g h1) (e := 7) (fun aa1 h1 hI1 => ?_) (fun i1 aa1 h1 hi1 hI1 ih1 => ?_) 0 (()) _ (by omega) (⟨fun j hj => absurd hj (Nat.not_lt_zero j), Fr.rf⟩)
  · show J _ _ _ _ _ [some (pR (some c)), some (pR (some d)), some (pI (nI 7))] _ _ h1
    obtain ⟨hI2, hI3⟩ := hI1
    have hG := hI3.g hG0
    refine J_iload_n dX6_becomeAs_42 rfl ?_
    refine J_bipush (x := nI 7) dX6_becomeAs_43 (by decide) ?_
    refine J_icmp_geN dX6_becomeAs_45 (by decide) (by decide) (fun c0 => ?_) (fun c0 => absurd c0 (by decide))
    exact J_retV dX6_becomeAs_72 rfl ⟨⟨(hI3.i (by omega)).trans g0.1, (hI3.i (by omega)).trans g0.2.1, (hI3.i (by omega)).trans g0.2.2.1, (hI3.i (by omega)).trans g0.2.2.2.1, (hI3.l (by omega)).trans g0.2.2.2.2⟩, hI2, (gf.mo (by omega) (by omega)).tr (hI3.mo (by omega) (by omega))⟩
  · show J _ _ _ _ _ [some (pR (some c)), some (pR (some d)), some (pI (nI i1))] _ _ h1
    obtain ⟨hI2, hI3⟩ := hI1
    have hG := hI3.g hG0
    refine J_iload_n dX6_becomeAs_42 rfl ?_
    refine J_bipush (x := nI 7) dX6_becomeAs_43 (by decide) ?_
    refine J_icmp_geN dX6_becomeAs_45 (by omega) (by omega) (fun c1 => ?_) (fun c1 => ?_)
    · exact (show False by omega).elim
    · refine J_aload_n dX6_becomeAs_48 rfl ?_
      refine J_getR (r := some (d + 1)) dX6_becomeAs_49 fX6_17 hd.s (fun _ => rfl) (hd.e4 hG) ?_
      refine J_iload_n dX6_becomeAs_52 rfl ?_
      refine J_aald7N (r := some (d + 2 + i1)) dX6_becomeAs_53 hd.s1 (by decide) (by omega) (hd.er hG (by omega)) ?_
      refine J_iconstN (n := 0) dX6_becomeAs_54 ?_
      refine J_aload_n dX6_becomeAs_55 rfl ?_
      refine J_getR (r := some (c + 1)) dX6_becomeAs_56 fX6_17 hc.s (fun _ => rfl) (hc.e4 hG) ?_
      refine J_iload_n dX6_becomeAs_59 rfl ?_
      refine J_aald7N (r := some (c + 2 + i1)) dX6_becomeAs_60 hc.s1 (by decide) (by omega) (hc.er hG (by omega)) ?_
      refine J_iconstN (n := 0) dX6_becomeAs_61 ?_
      refine J_iconstN (n := 4) dX6_becomeAs_62 ?_
      refine J_cpyIN dX6_becomeAs_63 lX6_127 (hd.sr (by omega)) (hc.sr (by omega)) (by omega) (by omega) (by omega) (by omega) (by omega) (by decide) (Nat.le_of_ble_eq_true rfl) ?_
      refine J_iincN (n := 1) (L' := [some (pR (some c)), some (pR (some d)), some (pI (nI (i1 + 1)))]) dX6_becomeAs_66 rfl (by decide) rfl ?_
      refine J_goto dX6_becomeAs_69 ?_
      exact ih1 () _ ⟨fun j hj t ht => by
        by_cases q : j = i1
        · subst q
          rw [rW_s]
          show (if 0 ≤ t ∧ t < 0 + 4 then h1.1 (d + 2 + j) (0 + (t - 0)) else _) = _
          rw [if_pos (by omega), Nat.zero_add, Nat.sub_zero]
          exact (hI3.i (by omega)).trans (gf.i (by omega))
        · rw [show (wI h1 (c + 2 + i1) (va_cpy (h1.1 (d + 2 + i1)) (h1.1 (c + 2 + i1)) 0 0 4)).1 (c + 2 + j) = h1.1 (c + 2 + j) from rW_c (by omega)]
          exact hI2 j (by omega) t ht, hI3.tr (Fr.wI (by omega) (by omega))⟩
theorem c_X9_keep_in {h : PH} {p : Nat} {A : AS} {k : Nat} (hG : GR h.2.2) (hX : XI h p A) (hW : WF A) (hk : k < 3) (hon : aR A 0 0 = 1) : CtI mX9_keep h [pR (some 0), pI (nI k)] (fun v h' => v = nI (aR A 0 2) ∧ XP h h' p (wRn A (k + 1) (aR A 0) (aW A 0) (aS A 0))) := by
  have bN := hW.1
  have bk := hW.wk
  have bc := hW.cs
  have bw := hW.wn
  have bt := hW.tn
  have bf := hW.fn
  have hrn : IsRn 117 := Or.inl rfl
  have bo : aR A 0 0 < 2 := hW.on (by decide)
  have bl : (aL A).1 < 2 := hW.2.2.2.2.1.1
  refine Ct.of (L := [some (pR (some 0)), some (pI (nI k))]) rfl rfl (Nat.le_of_ble_eq_true rfl) rfl ?_
  refine J_iload_n dX9_keep_0 rfl ?_
  refine J_if_ltN dX9_keep_1 (by omega) ?_
  refine J_iload_n dX9_keep_4 rfl ?_
  refine J_iconstN (n := 3) dX9_keep_5 ?_
  refine J_icmp_ltN dX9_keep_6 (by omega) (by omega) (fun c1 => ?_) (fun c1 => ?_)
  · refine J_aload_n dX9_keep_12 rfl ?_
    refine J_getR (r := some 117) dX9_keep_13 fX9_62 s0 (fun _ => rfl) (g0_9 hG) ?_
    refine J_getI dX9_keep_16 fX9_95 s117 (fun _ => rfl) ?_
    refine J_cvI (hX.rn.1) ?_
    refine J_if_neN dX9_keep_19 (by omega) (fun c2 => ?_) (fun c2 => ?_)
    · refine J_aload_n dX9_keep_25 rfl ?_
      refine J_getR (r := some 127) dX9_keep_26 fX9_66 s0 (fun _ => rfl) (g0_10 hG) ?_
      refine J_iload_n dX9_keep_29 rfl ?_
      refine J_aald6N (r := some (128 + 10 * k)) dX9_keep_30 s127 (by decide) (by omega) (sl_e hG (by omega)) ?_
      refine J_aload_n dX9_keep_31 rfl ?_
      refine J_getR (r := some 117) dX9_keep_32 fX9_62 s0 (fun _ => rfl) (g0_9 hG) ?_
      refine J_cVV (ci := 6) (c := 128 + 10 * k) (as := [pR (some 117)]) (st := []) dX9_keep_35 lX9_329 okX6_becomeAs vX6_becomeAs (sl_rn hk).s (by decide) rfl rfl rfl (Nat.le_of_ble_eq_true rfl) ⟨Nat.le_of_ble_eq_true rfl, Nat.le_of_ble_eq_true rfl⟩ CR.f (c_X6_becomeAs hG (sl_rn hk) hrn (by omega) (hX.rn.1.trans (by rw [hon]))) (fun g1 e1 => ?_)
      have hG := e1.2.2.g hG
      refine J_aload_n dX9_keep_38 rfl ?_
      refine J_getR (r := some 117) dX9_keep_39 fX9_62 s0 (fun _ => rfl) (g0_9 hG) ?_
      refine J_getI dX9_keep_42 fX9_312 s117 (fun _ => rfl) ?_
      refine J_cvI (((e1.2.2.i (by omega)).trans (hX.rn.2 hon).2.1)) ?_
      exact J_retI dX9_keep_45 rfl ⟨rfl, hX.run hW (r0 := k + 1) (by omega) (by rw [rcX_1]; exact e1.2.2) (by rw [rcX_1]; exact hX.rn.be e1 hW.tn hon), e1.2.2.mo (by omega) (by omega)⟩
    · exact (show False by omega).elim
  · exact (show False by omega).elim
theorem c_X9_keep_no {h : PH} {p : Nat} {A : AS} {k : Int32} (hG : GR h.2.2) (hX : XI h p A) (hW : WF A) (hno : ¬ (inR k 3 ∧ aR A 0 0 = 1)) : CtI mX9_keep h [pR (some 0), pI k] (fun v h' => v = (if inR k 3 then -4 else -2) ∧ XP h h' p A) := by
  have bN := hW.1
  have bk := hW.wk
  have bc := hW.cs
  have bw := hW.wn
  have bt := hW.tn
  have bf := hW.fn
  have hrn : IsRn 117 := Or.inl rfl
  have bo : aR A 0 0 < 2 := hW.on (by decide)
  have bl : (aL A).1 < 2 := hW.2.2.2.2.1.1
  refine Ct.of (L := [some (pR (some 0)), some (pI k)]) rfl rfl (Nat.le_of_ble_eq_true rfl) rfl ?_
  refine J_iload_n dX9_keep_0 rfl ?_
  refine J_if_lt dX9_keep_1 (fun d1 => ?_) (fun d1 => ?_)
  · refine J_bipush (x := (-2)) dX9_keep_9 (by decide) ?_
    exact J_retI dX9_keep_11 rfl ⟨(if_neg (fun q => by simp only [inR, Int32.lt_iff_toInt_lt, Int32.le_iff_toInt_le, tn0, tn1, tn2, tn3, tn4, tn5, tn6, tn10, tn19, tn20, tn40, tn48, tn80, tn89, tn90, tn99, tn999, tn9999, zT] at q d1 <;> omega)).symm, hX, Fr.rf⟩
  · refine J_iload_n dX9_keep_4 rfl ?_
    refine J_iconstN (n := 3) dX9_keep_5 ?_
    refine J_icmp_lt dX9_keep_6 (fun d2 => ?_) (fun d2 => ?_)
    · refine J_aload_n dX9_keep_12 rfl ?_
      refine J_getR (r := some 117) dX9_keep_13 fX9_62 s0 (fun _ => rfl) (g0_9 hG) ?_
      refine J_getI dX9_keep_16 fX9_95 s117 (fun _ => rfl) ?_
      refine J_cvI (hX.rn.1) ?_
      refine J_if_neN dX9_keep_19 (by omega) (fun d3 => ?_) (fun d3 => ?_)
      · exact absurd ⟨inR_a (by decide) d1 d2, by omega⟩ hno
      · refine J_bipush (x := (-4)) dX9_keep_22 (by decide) ?_
        exact J_retI dX9_keep_24 rfl ⟨(if_pos (inR_a (by decide) d1 d2)).symm, hX, Fr.rf⟩
    · refine J_bipush (x := (-2)) dX9_keep_9 (by decide) ?_
      exact J_retI dX9_keep_11 rfl ⟨(if_neg (fun q => by simp only [inR, Int32.lt_iff_toInt_lt, Int32.le_iff_toInt_le, tn0, tn1, tn2, tn3, tn4, tn5, tn6, tn10, tn19, tn20, tn40, tn48, tn80, tn89, tn90, tn99, tn999, tn9999, zT] at q d1 d2 <;> omega)).symm, hX, Fr.rf⟩
theorem c_X9_take_in {h : PH} {p : Nat} {A : AS} {k : Nat} (hG : GR h.2.2) (hX : XI h p A) (hW : WF A) (hk : k < 3) (hon : aR A (k + 1) 0 = 1) : CtI mX9_take h [pR (some 0), pI (nI k)] (fun v h' => v = nI (aR A (k + 1) 2) ∧ XP h h' p (wRn A 0 (aR A (k + 1)) (aW A (k + 1)) (aS A (k + 1)))) := by
  have bN := hW.1
  have bk := hW.wk
  have bc := hW.cs
  have bw := hW.wn
  have bt := hW.tn
  have bf := hW.fn
  have hrn : IsRn 117 := Or.inl rfl
  have bo : aR A 0 0 < 2 := hW.on (by decide)
  have bl : (aL A).1 < 2 := hW.2.2.2.2.1.1
  have bs : aR A (k + 1) 0 < 2 := hW.on (by omega)
  refine Ct.of (L := [some (pR (some 0)), some (pI (nI k))]) rfl rfl (Nat.le_of_ble_eq_true rfl) rfl ?_
  refine J_iload_n dX9_take_0 rfl ?_
  refine J_if_ltN dX9_take_1 (by omega) ?_
  refine J_iload_n dX9_take_4 rfl ?_
  refine J_iconstN (n := 3) dX9_take_5 ?_
  refine J_icmp_ltN dX9_take_6 (by omega) (by omega) (fun c1 => ?_) (fun c1 => ?_)
  · refine J_aload_n dX9_take_12 rfl ?_
    refine J_getR (r := some 127) dX9_take_13 fX9_66 s0 (fun _ => rfl) (g0_10 hG) ?_
    refine J_iload_n dX9_take_16 rfl ?_
    refine J_aald6N (r := some (128 + 10 * k)) dX9_take_17 s127 (by decide) (by omega) (sl_e hG (by omega)) ?_
    refine J_getI dX9_take_18 fX9_95 (sl_rn hk).s (fun _ => rfl) ?_
    refine J_cvI ((hX.sl hk).1) ?_
    refine J_if_neN dX9_take_21 (by omega) (fun c2 => ?_) (fun c2 => ?_)
    · refine J_aload_n dX9_take_27 rfl ?_
      refine J_getR (r := some 117) dX9_take_28 fX9_62 s0 (fun _ => rfl) (g0_9 hG) ?_
      refine J_aload_n dX9_take_31 rfl ?_
      refine J_getR (r := some 127) dX9_take_32 fX9_66 s0 (fun _ => rfl) (g0_10 hG) ?_
      refine J_iload_n dX9_take_35 rfl ?_
      refine J_aald6N (r := some (128 + 10 * k)) dX9_take_36 s127 (by decide) (by omega) (sl_e hG (by omega)) ?_
      refine J_cVV (ci := 6) (c := 117) (as := [pR (some (128 + 10 * k))]) (st := []) dX9_take_37 lX9_329 okX6_becomeAs vX6_becomeAs s117 (by decide) rfl rfl rfl (Nat.le_of_ble_eq_true rfl) ⟨Nat.le_of_ble_eq_true rfl, Nat.le_of_ble_eq_true rfl⟩ CR.f (c_X6_becomeAs hG hrn (sl_rn hk) (by omega) ((hX.sl hk).1.trans (by rw [hon]))) (fun g1 e1 => ?_)
      have hG := e1.2.2.g hG
      refine J_aload_n dX9_take_40 rfl ?_
      refine J_getR (r := some 117) dX9_take_41 fX9_62 s0 (fun _ => rfl) (g0_9 hG) ?_
      refine J_getI dX9_take_44 fX9_312 s117 (fun _ => rfl) ?_
      refine J_cvI ((e1.1.2.2.1.trans ((hX.sl hk).2 hon).2.1)) ?_
      exact J_retI dX9_take_47 rfl ⟨rfl, hX.run hW (r0 := 0) (by decide) e1.2.2 ((hX.sl hk).be e1 hW.tn hon), e1.2.2.mo (by omega) (by omega)⟩
    · exact (show False by omega).elim
  · exact (show False by omega).elim
theorem c_X9_take_off {h : PH} {p : Nat} {A : AS} {k : Nat} (hG : GR h.2.2) (hX : XI h p A) (hW : WF A) (hk : k < 3) (hof : ¬ aR A (k + 1) 0 = 1) : CtI mX9_take h [pR (some 0), pI (nI k)] (fun v h' => v = -4 ∧ XP h h' p A) := by
  have bN := hW.1
  have bk := hW.wk
  have bc := hW.cs
  have bw := hW.wn
  have bt := hW.tn
  have bf := hW.fn
  have hrn : IsRn 117 := Or.inl rfl
  have bo : aR A 0 0 < 2 := hW.on (by decide)
  have bl : (aL A).1 < 2 := hW.2.2.2.2.1.1
  have bs : aR A (k + 1) 0 < 2 := hW.on (by omega)
  refine Ct.of (L := [some (pR (some 0)), some (pI (nI k))]) rfl rfl (Nat.le_of_ble_eq_true rfl) rfl ?_
  refine J_iload_n dX9_take_0 rfl ?_
  refine J_if_ltN dX9_take_1 (by omega) ?_
  refine J_iload_n dX9_take_4 rfl ?_
  refine J_iconstN (n := 3) dX9_take_5 ?_
  refine J_icmp_ltN dX9_take_6 (by omega) (by omega) (fun c1 => ?_) (fun c1 => ?_)
  · refine J_aload_n dX9_take_12 rfl ?_
    refine J_getR (r := some 127) dX9_take_13 fX9_66 s0 (fun _ => rfl) (g0_10 hG) ?_
    refine J_iload_n dX9_take_16 rfl ?_
    refine J_aald6N (r := some (128 + 10 * k)) dX9_take_17 s127 (by decide) (by omega) (sl_e hG (by omega)) ?_
    refine J_getI dX9_take_18 fX9_95 (sl_rn hk).s (fun _ => rfl) ?_
    refine J_cvI ((hX.sl hk).1) ?_
    refine J_if_neN dX9_take_21 (by omega) (fun c2 => ?_) (fun c2 => ?_)
    · exact (show False by omega).elim
    · refine J_bipush (x := (-4)) dX9_take_24 (by decide) ?_
      exact J_retI dX9_take_26 rfl ⟨rfl, hX, Fr.rf⟩
  · exact (show False by omega).elim
theorem c_X9_take_no {h : PH} {p : Nat} {A : AS} {k : Int32} (hG : GR h.2.2) (hX : XI h p A) (hW : WF A) (hno : ¬ inR k 3) : CtI mX9_take h [pR (some 0), pI k] (fun v h' => v = -2 ∧ XP h h' p A) := by
  have bN := hW.1
  have bk := hW.wk
  have bc := hW.cs
  have bw := hW.wn
  have bt := hW.tn
  have bf := hW.fn
  have hrn : IsRn 117 := Or.inl rfl
  have bo : aR A 0 0 < 2 := hW.on (by decide)
  have bl : (aL A).1 < 2 := hW.2.2.2.2.1.1
  refine Ct.of (L := [some (pR (some 0)), some (pI k)]) rfl rfl (Nat.le_of_ble_eq_true rfl) rfl ?_
  refine J_iload_n dX9_take_0 rfl ?_
  refine J_if_lt dX9_take_1 (fun d1 => ?_) (fun d1 => ?_)
  · refine J_bipush (x := (-2)) dX9_take_9 (by decide) ?_
    exact J_retI dX9_take_11 rfl ⟨rfl, hX, Fr.rf⟩
  · refine J_iload_n dX9_take_4 rfl ?_
    refine J_iconstN (n := 3) dX9_take_5 ?_
    refine J_icmp_lt dX9_take_6 (fun d2 => ?_) (fun d2 => ?_)
    · exact absurd (inR_a (by decide) d1 d2) hno
    · refine J_bipush (x := (-2)) dX9_take_9 (by decide) ?_
      exact J_retI dX9_take_11 rfl ⟨rfl, hX, Fr.rf⟩
theorem c_X10_isSlot {h : PH} {k : Int32} : CtI mX10_isSlot h [pI k] (fun v h' => v = bI (inR k 3) ∧ h' = h) := by
  refine Ct.of (L := [some (pI k)]) rfl rfl (Nat.le_of_ble_eq_true rfl) rfl ?_
  refine J_iload_n dX10_isSlot_0 rfl ?_
  refine J_iconstN (n := 0) dX10_isSlot_1 ?_
  refine J_iconstN (n := 2) dX10_isSlot_2 ?_
  refine J_cSI (as := [pI k, pI (nI 0), pI (nI 2)]) (st := []) dX10_isSlot_3 lX10_172 okX10_in sX10_in rfl rfl (Nat.le_of_ble_eq_true rfl) ⟨Nat.le_of_ble_eq_true rfl, Nat.le_of_ble_eq_true rfl⟩ CR.f (c_X10_in) (fun vq1 gq1 eq1 => ?_)
  obtain ⟨rfl, fq1⟩ := eq1
  rw [fq1]
  refine J_cvI (bI_congr (in_iffN (b := 2) (by decide))) ?_
  exact J_retZ dX10_isSlot_6 rfl (bI_nar _) ⟨rfl, rfl⟩
theorem RnM.cp {h h' : PH} {b b' : Nat} {P : PD} {R : Nat → Nat} {W : Nat → Nat → Nat} (a : RnM h b P R W) (hT : P 0 3 0 ≤ 4) (e : ∀ j, j < 32 → h'.1 184 (b' + j) = h.1 184 (b + j)) : RnM h' b' P R W := by
  have e2 : ∀ {m m' j : Nat}, m' = b' + j → m = b + j → j < 32 → h'.1 184 m' = h.1 184 m := fun x y z => by rw [x, y]; exact e _ z
  refine ⟨(e 1 (by decide)).trans a.1, (e 2 (by decide)).trans a.2.1, (e 3 (by decide)).trans a.2.2.1, fun t ht => ⟨fun i hi => ?_, ?_⟩⟩
  · have ht4 : t < 4 := Nat.lt_of_lt_of_le ht hT
    exact (e2 (j := 8 + 4 * i + t) (by omega) (by omega) (by omega)).trans ((a.2.2.2 t ht).1 i hi)
  · have ht4 : t < 4 := Nat.lt_of_lt_of_le ht hT
    exact (e2 (j := 4 + t) (by omega) (by omega) (by omega)).trans (a.2.2.2 t ht).2
theorem FRm.c {r0 : Nat} {h h' : PH} (f : Fr 184 184 h h') (e : ∀ j, (j < 32 * r0 ∨ 32 * r0 + 32 ≤ j) → h'.1 184 j = h.1 184 j) : FRm r0 h h' := ⟨fun c _ x2 _ _ _ => f.1 c (by omega), fun _ _ => f.i (by decide), e, fun _ _ => f.l (by decide), fun _ _ => f.i (by decide), f.2⟩
theorem c_X10_keep_in {h : PH} {A : AS} {k : Nat} (hG : GR h.2.2) (hM : MI h A) (hW : WF A) (hk : k < 3) (hon : aR A 0 0 = 1) : CtI mX10_keep h [pR (some 158), pI (nI k)] (fun v h' => v = nI (aR A 0 2) ∧ MP h h' (wRn A (k + 1) (aR A 0) (aW A 0) (aS A 0))) := by
  have bN := hW.1
  have bk := hW.wk
  have bc := hW.cs
  have bw := hW.wn
  have bt := hW.tn
  have bf := hW.fn
  have bo : aR A 0 0 < 2 := hW.on (by decide)
  have bl : (aL A).1 < 2 := hW.2.2.2.2.1.1
  refine Ct.of (L := [some (pR (some 158)), some (pI (nI k)), none]) rfl rfl (Nat.le_of_ble_eq_true rfl) rfl ?_
  refine J_iload_n dX10_keep_0 rfl ?_
  refine J_cSI (as := [pI (nI k)]) (st := []) dX10_keep_1 lX10_392 okX10_isSlot sX10_isSlot rfl rfl (Nat.le_of_ble_eq_true rfl) ⟨Nat.le_of_ble_eq_true rfl, Nat.le_of_ble_eq_true rfl⟩ CR.f (c_X10_isSlot) (fun vq1 gq1 eq1 => ?_)
  obtain ⟨rfl, fq1⟩ := eq1
  rw [fq1]
  refine J_cvI (bI_congr (inR_nI_iff (by omega))) ?_
  refine J_if_neB dX10_keep_4 (fun c2 => ?_) (fun c2 => ?_)
  · refine J_aload_n dX10_keep_10 rfl ?_
    refine J_getR (r := some 184) dX10_keep_11 fX10_95 s158 (fun _ => rfl) (g158_48 hG) ?_
    refine J_iconstN (n := 0) dX10_keep_14 ?_
    refine J_ialdN dX10_keep_15 s184 (by decide) (by omega) ?_
    refine J_cvI (hM.2.2.2.2.2.1.1) ?_
    refine J_if_neN dX10_keep_16 (by omega) (fun c3 => ?_) (fun c3 => ?_)
    · refine J_aload_n dX10_keep_22 rfl ?_
      refine J_getR (r := some 186) dX10_keep_23 fX10_101 s158 (fun _ => rfl) (g158_50 hG) ?_
      refine J_iload_n dX10_keep_26 rfl ?_
      refine J_iconstN (n := 1) dX10_keep_27 ?_
      refine J_zastN dX10_keep_28 s186 (by decide) (by omega) ?_
      refine J_iconstN (n := 0) dX10_keep_29 ?_
      refine J_istore_n (L' := [some (pR (some 158)), some (pI (nI k)), some (pI (nI 0))]) dX10_keep_30 (by decide) rfl ?_
      refine J_L (L' := [some (pR (some 158)), some (pI (nI k)), some (pI (nI 0))]) rfl ?_
      generalize hg : sI (h) 186 k (vp_nar .boolean (nI 1)) = g
      have gf : FRm (k + 1) h g := by rw [← hg]; exact FRm.k
      have gk : g.1 186 k = nI 1 := by rw [← hg]; exact rI_s
      have gl : ∀ j, g.1 184 j = h.1 184 j := fun j => by rw [← hg]; exact rI_c (by decide)
      have gs : g.2 = h.2 := by rw [← hg]; rfl
      refine J_forI (α := Unit) (L := fun i1 aa1 => [some (pR (some 158)), some (pI (nI k)), some (pI (nI i1))]) (fun i1 aa1 h1 => (∀ j, j < i1 → h1.1 184 (32 * (k + 1) + j) = g.1 184 (j)) ∧ (∀ j, (j < 32 * (k + 1) ∨ 32 * (k + 1) + 32 ≤ j) → h1.1 184 j = g.1 184 j) ∧ Fr 184 184 g h1) (e := 32) (fun aa1 h1 hI1 => ?_) (fun i1 aa1 h1 hi1 hI1 ih1 => ?_) 0 (()) _ (by omega) (⟨fun j hj => absurd hj (Nat.not_lt_zero j), fun j hj => rfl, Fr.rf⟩)
      · show J _ _ _ _ _ [some (pR (some 158)), some (pI (nI k)), some (pI (nI 32))] _ _ h1
        obtain ⟨hI2, hI3, hI4⟩ := hI1
        have hG : GR h1.2.2 := hI4.g (by rw [gs]; exact hG)
        refine J_iload_n dX10_keep_31 rfl ?_
        refine J_bipush (x := nI 32) dX10_keep_32 (by decide) ?_
        refine J_icmp_geN dX10_keep_34 (by decide) (by decide) (fun c0 => ?_) (fun c0 => absurd c0 (by decide))
        refine J_aload_n dX10_keep_62 rfl ?_
        refine J_getR (r := some 185) dX10_keep_63 fX10_98 s158 (fun _ => rfl) (g158_49 hG) ?_
        refine J_iload_n dX10_keep_66 rfl ?_
        refine J_iconstN (n := 1) dX10_keep_67 ?_
        refine J_iaddN dX10_keep_68 ?_
        refine J_aload_n dX10_keep_69 rfl ?_
        refine J_getR (r := some 185) dX10_keep_70 fX10_98 s158 (fun _ => rfl) (g158_49 hG) ?_
        refine J_iconstN (n := 0) dX10_keep_73 ?_
        refine J_laldN dX10_keep_74 s185 (by decide) (by omega) ?_
        refine J_cvL (((hI4.l (by decide)).trans ((by rw [gs] : g.2.1 185 0 = h.2.1 185 0).trans (hM.rn hon).2))) ?_
        refine J_lastN dX10_keep_75 s185 (by decide) (by omega) ?_
        refine J_aload_n dX10_keep_76 rfl ?_
        refine J_getR (r := some 184) dX10_keep_77 fX10_95 s158 (fun _ => rfl) ((xRL).trans (g158_48 hG)) ?_
        refine J_iconstN (n := 2) dX10_keep_80 ?_
        refine J_ialdN dX10_keep_81 s184 (by decide) (by omega) ?_
        refine J_cvI ((xIL).trans (((hI3 2 (by omega)).trans ((gl 2).trans (hM.rn hon).1.2.1)))) ?_
        have FF : FRm (k + 1) h (sL h1 185 (k + 1) (lN (aS A 0))) := (gf.tr (FRm.c hI4 hI3)).tr FRm.s
        exact J_retI dX10_keep_82 rfl ⟨rfl, hM.run hW.tn (r0 := k + 1) FF (fun _ => ⟨(hM.rn hon).1.cp hW.tn (fun j hj => by rw [Nat.zero_add]; exact (hI2 j hj).trans (gl j)), rL_s, (hI2 0 (by decide)).trans ((gl 0).trans (hM.2.2.2.2.2.1.1.trans (by rw [hon])))⟩) (fun z => absurd z (by omega)) (fun j hj => by have e : j = k := (by omega); subst e; exact (hI4.i (by decide)).trans (gk.trans (by rw [hon]))), FF.fr⟩
      · show J _ _ _ _ _ [some (pR (some 158)), some (pI (nI k)), some (pI (nI i1))] _ _ h1
        obtain ⟨hI2, hI3, hI4⟩ := hI1
        have hG : GR h1.2.2 := hI4.g (by rw [gs]; exact hG)
        have hsr : h1.1 184 (i1) = g.1 184 (i1) := hI3 _ (by omega)
        refine J_iload_n dX10_keep_31 rfl ?_
        refine J_bipush (x := nI 32) dX10_keep_32 (by decide) ?_
        refine J_icmp_geN dX10_keep_34 (by omega) (by omega) (fun c4 => ?_) (fun c4 => ?_)
        · exact (show False by omega).elim
        · refine J_aload_n dX10_keep_37 rfl ?_
          refine J_getR (r := some 184) dX10_keep_38 fX10_95 s158 (fun _ => rfl) (g158_48 hG) ?_
          refine J_bipush (x := nI 32) dX10_keep_41 (by decide) ?_
          refine J_iload_n dX10_keep_43 rfl ?_
          refine J_iconstN (n := 1) dX10_keep_44 ?_
          refine J_iaddN dX10_keep_45 ?_
          refine J_imulN dX10_keep_46 ?_
          refine J_iload_n dX10_keep_47 rfl ?_
          refine J_iaddN dX10_keep_48 ?_
          refine J_aload_n dX10_keep_49 rfl ?_
          refine J_getR (r := some 184) dX10_keep_50 fX10_95 s158 (fun _ => rfl) (g158_48 hG) ?_
          refine J_iload_n dX10_keep_53 rfl ?_
          refine J_ialdN dX10_keep_54 s184 (by decide) (by omega) ?_
          refine J_cvI (hsr) ?_
          refine J_iastN dX10_keep_55 s184 (by decide) (by omega) ?_
          refine J_iincN (n := 1) (L' := [some (pR (some 158)), some (pI (nI k)), some (pI (nI (i1 + 1)))]) dX10_keep_56 rfl (by decide) rfl ?_
          refine J_goto dX10_keep_59 ?_
          exact ih1 () _ ⟨fun j hj => by
          by_cases q : j = i1
          · subst q; exact rI_s
          · exact (rI_k (by omega)).trans (hI2 j (by omega)), fun j hj => (rI_k (by omega)).trans (hI3 j hj), hI4.tr (Fr.sI (by decide) (by decide))⟩
    · exact (show False by omega).elim
  · exact (show False by omega).elim
theorem c_X10_keep_no {h : PH} {A : AS} {k : Int32} (hG : GR h.2.2) (hM : MI h A) (hW : WF A) (hno : ¬ (inR k 3 ∧ aR A 0 0 = 1)) : CtI mX10_keep h [pR (some 158), pI k] (fun v h' => v = (if inR k 3 then -4 else -2) ∧ MP h h' A) := by
  have bN := hW.1
  have bk := hW.wk
  have bc := hW.cs
  have bw := hW.wn
  have bt := hW.tn
  have bf := hW.fn
  have bo : aR A 0 0 < 2 := hW.on (by decide)
  have bl : (aL A).1 < 2 := hW.2.2.2.2.1.1
  refine Ct.of (L := [some (pR (some 158)), some (pI k), none]) rfl rfl (Nat.le_of_ble_eq_true rfl) rfl ?_
  refine J_iload_n dX10_keep_0 rfl ?_
  refine J_cSI (as := [pI k]) (st := []) dX10_keep_1 lX10_392 okX10_isSlot sX10_isSlot rfl rfl (Nat.le_of_ble_eq_true rfl) ⟨Nat.le_of_ble_eq_true rfl, Nat.le_of_ble_eq_true rfl⟩ CR.f (c_X10_isSlot) (fun vq1 gq1 eq1 => ?_)
  obtain ⟨rfl, fq1⟩ := eq1
  rw [fq1]
  refine J_if_neB dX10_keep_4 (fun d1 => ?_) (fun d1 => ?_)
  · refine J_aload_n dX10_keep_10 rfl ?_
    refine J_getR (r := some 184) dX10_keep_11 fX10_95 s158 (fun _ => rfl) (g158_48 hG) ?_
    refine J_iconstN (n := 0) dX10_keep_14 ?_
    refine J_ialdN dX10_keep_15 s184 (by decide) (by omega) ?_
    refine J_cvI (hM.2.2.2.2.2.1.1) ?_
    refine J_if_neN dX10_keep_16 (by omega) (fun d3 => ?_) (fun d3 => ?_)
    · exact absurd ⟨d1, by omega⟩ hno
    · refine J_bipush (x := (-4)) dX10_keep_19 (by decide) ?_
      exact J_retI dX10_keep_21 rfl ⟨(if_pos d1).symm, hM, Fr.rf⟩
  · refine J_bipush (x := (-2)) dX10_keep_7 (by decide) ?_
    exact J_retI dX10_keep_9 rfl ⟨(if_neg d1).symm, hM, Fr.rf⟩
theorem c_X10_take_in {h : PH} {A : AS} {k : Nat} (hG : GR h.2.2) (hM : MI h A) (hW : WF A) (hk : k < 3) (hon : aR A (k + 1) 0 = 1) : CtI mX10_take h [pR (some 158), pI (nI k)] (fun v h' => v = nI (aR A (k + 1) 2) ∧ MP h h' (wRn A 0 (aR A (k + 1)) (aW A (k + 1)) (aS A (k + 1)))) := by
  have bN := hW.1
  have bk := hW.wk
  have bc := hW.cs
  have bw := hW.wn
  have bt := hW.tn
  have bf := hW.fn
  have bo : aR A 0 0 < 2 := hW.on (by decide)
  have bl : (aL A).1 < 2 := hW.2.2.2.2.1.1
  have bs : aR A (k + 1) 0 < 2 := hW.on (by omega)
  refine Ct.of (L := [some (pR (some 158)), some (pI (nI k)), none]) rfl rfl (Nat.le_of_ble_eq_true rfl) rfl ?_
  refine J_iload_n dX10_take_0 rfl ?_
  refine J_cSI (as := [pI (nI k)]) (st := []) dX10_take_1 lX10_392 okX10_isSlot sX10_isSlot rfl rfl (Nat.le_of_ble_eq_true rfl) ⟨Nat.le_of_ble_eq_true rfl, Nat.le_of_ble_eq_true rfl⟩ CR.f (c_X10_isSlot) (fun vq1 gq1 eq1 => ?_)
  obtain ⟨rfl, fq1⟩ := eq1
  rw [fq1]
  refine J_cvI (bI_congr (inR_nI_iff (by omega))) ?_
  refine J_if_neB dX10_take_4 (fun c2 => ?_) (fun c2 => ?_)
  · refine J_aload_n dX10_take_10 rfl ?_
    refine J_getR (r := some 186) dX10_take_11 fX10_101 s158 (fun _ => rfl) (g158_50 hG) ?_
    refine J_iload_n dX10_take_14 rfl ?_
    refine J_zaldN dX10_take_15 s186 (by decide) (by omega) ?_
    refine J_cvI ((hM.2.2.2.2.2.1.2.1 k hk)) ?_
    refine J_if_neN dX10_take_16 (by omega) (fun c3 => ?_) (fun c3 => ?_)
    · refine J_iconstN (n := 0) dX10_take_22 ?_
      refine J_istore_n (L' := [some (pR (some 158)), some (pI (nI k)), some (pI (nI 0))]) dX10_take_23 (by decide) rfl ?_
      refine J_L (L' := [some (pR (some 158)), some (pI (nI k)), some (pI (nI 0))]) rfl ?_
      refine J_forI (α := Unit) (L := fun i1 aa1 => [some (pR (some 158)), some (pI (nI k)), some (pI (nI i1))]) (fun i1 aa1 h1 => (∀ j, j < i1 → h1.1 184 (j) = h.1 184 (32 * (k + 1) + j)) ∧ (∀ j, (j < 0 ∨ 0 + 32 ≤ j) → h1.1 184 j = h.1 184 j) ∧ Fr 184 184 h h1) (e := 32) (fun aa1 h1 hI1 => ?_) (fun i1 aa1 h1 hi1 hI1 ih1 => ?_) 0 (()) _ (by omega) (⟨fun j hj => absurd hj (Nat.not_lt_zero j), fun j hj => rfl, Fr.rf⟩)
      · show J _ _ _ _ _ [some (pR (some 158)), some (pI (nI k)), some (pI (nI 32))] _ _ h1
        obtain ⟨hI2, hI3, hI4⟩ := hI1
        have hG : GR h1.2.2 := hI4.g (hG)
        refine J_iload_n dX10_take_24 rfl ?_
        refine J_bipush (x := nI 32) dX10_take_25 (by decide) ?_
        refine J_icmp_geN dX10_take_27 (by decide) (by decide) (fun c0 => ?_) (fun c0 => absurd c0 (by decide))
        refine J_aload_n dX10_take_55 rfl ?_
        refine J_getR (r := some 185) dX10_take_56 fX10_98 s158 (fun _ => rfl) (g158_49 hG) ?_
        refine J_iconstN (n := 0) dX10_take_59 ?_
        refine J_aload_n dX10_take_60 rfl ?_
        refine J_getR (r := some 185) dX10_take_61 fX10_98 s158 (fun _ => rfl) (g158_49 hG) ?_
        refine J_iload_n dX10_take_64 rfl ?_
        refine J_iconstN (n := 1) dX10_take_65 ?_
        refine J_iaddN dX10_take_66 ?_
        refine J_laldN dX10_take_67 s185 (by decide) (by omega) ?_
        refine J_cvL (((hI4.l (by decide)).trans (hM.sl hk hon).2.1)) ?_
        refine J_lastN dX10_take_68 s185 (by decide) (by omega) ?_
        refine J_aload_n dX10_take_69 rfl ?_
        refine J_getR (r := some 184) dX10_take_70 fX10_95 s158 (fun _ => rfl) ((xRL).trans (g158_48 hG)) ?_
        refine J_iconstN (n := 2) dX10_take_73 ?_
        refine J_ialdN dX10_take_74 s184 (by decide) (by omega) ?_
        refine J_cvI ((xIL).trans (((hI2 2 (by decide)).trans (hM.sl hk hon).1.2.1))) ?_
        have FF : FRm 0 h (sL h1 185 0 (lN (aS A (k + 1)))) := (FRm.c hI4 (fun j hj => hI3 j (by omega))).tr FRm.s
        exact J_retI dX10_take_75 rfl ⟨rfl, hM.run hW.tn (r0 := 0) FF (fun _ => ⟨(hM.sl hk hon).1.cp hW.tn (fun j hj => by rw [Nat.mul_zero, Nat.zero_add]; exact hI2 j hj), rL_s, (hI2 0 (by decide)).trans (hM.sl hk hon).2.2⟩) (fun _ => (hI2 0 (by decide)).trans ((hM.sl hk hon).2.2.trans (by rw [hon]))) (fun j hj => absurd hj (by omega)), FF.fr⟩
      · show J _ _ _ _ _ [some (pR (some 158)), some (pI (nI k)), some (pI (nI i1))] _ _ h1
        obtain ⟨hI2, hI3, hI4⟩ := hI1
        have hG : GR h1.2.2 := hI4.g (hG)
        have hsr : h1.1 184 (32 * (k + 1) + i1) = h.1 184 (32 * (k + 1) + i1) := hI3 _ (by omega)
        refine J_iload_n dX10_take_24 rfl ?_
        refine J_bipush (x := nI 32) dX10_take_25 (by decide) ?_
        refine J_icmp_geN dX10_take_27 (by omega) (by omega) (fun c4 => ?_) (fun c4 => ?_)
        · exact (show False by omega).elim
        · refine J_aload_n dX10_take_30 rfl ?_
          refine J_getR (r := some 184) dX10_take_31 fX10_95 s158 (fun _ => rfl) (g158_48 hG) ?_
          refine J_iload_n dX10_take_34 rfl ?_
          refine J_aload_n dX10_take_35 rfl ?_
          refine J_getR (r := some 184) dX10_take_36 fX10_95 s158 (fun _ => rfl) (g158_48 hG) ?_
          refine J_bipush (x := nI 32) dX10_take_39 (by decide) ?_
          refine J_iload_n dX10_take_41 rfl ?_
          refine J_iconstN (n := 1) dX10_take_42 ?_
          refine J_iaddN dX10_take_43 ?_
          refine J_imulN dX10_take_44 ?_
          refine J_iload_n dX10_take_45 rfl ?_
          refine J_iaddN dX10_take_46 ?_
          refine J_ialdN dX10_take_47 s184 (by decide) (by omega) ?_
          refine J_cvI (hsr) ?_
          refine J_iastN dX10_take_48 s184 (by decide) (by omega) ?_
          refine J_iincN (n := 1) (L' := [some (pR (some 158)), some (pI (nI k)), some (pI (nI (i1 + 1)))]) dX10_take_49 rfl (by decide) rfl ?_
          refine J_goto dX10_take_52 ?_
          exact ih1 () _ ⟨fun j hj => by
          by_cases q : j = i1
          · subst q; exact rI_s
          · exact (rI_k (by omega)).trans (hI2 j (by omega)), fun j hj => (rI_k (by omega)).trans (hI3 j hj), hI4.tr (Fr.sI (by decide) (by decide))⟩
    · exact (show False by omega).elim
  · exact (show False by omega).elim
theorem c_X10_take_off {h : PH} {A : AS} {k : Nat} (hG : GR h.2.2) (hM : MI h A) (hW : WF A) (hk : k < 3) (hof : ¬ aR A (k + 1) 0 = 1) : CtI mX10_take h [pR (some 158), pI (nI k)] (fun v h' => v = -4 ∧ MP h h' A) := by
  have bN := hW.1
  have bk := hW.wk
  have bc := hW.cs
  have bw := hW.wn
  have bt := hW.tn
  have bf := hW.fn
  have bo : aR A 0 0 < 2 := hW.on (by decide)
  have bl : (aL A).1 < 2 := hW.2.2.2.2.1.1
  have bs : aR A (k + 1) 0 < 2 := hW.on (by omega)
  refine Ct.of (L := [some (pR (some 158)), some (pI (nI k)), none]) rfl rfl (Nat.le_of_ble_eq_true rfl) rfl ?_
  refine J_iload_n dX10_take_0 rfl ?_
  refine J_cSI (as := [pI (nI k)]) (st := []) dX10_take_1 lX10_392 okX10_isSlot sX10_isSlot rfl rfl (Nat.le_of_ble_eq_true rfl) ⟨Nat.le_of_ble_eq_true rfl, Nat.le_of_ble_eq_true rfl⟩ CR.f (c_X10_isSlot) (fun vq1 gq1 eq1 => ?_)
  obtain ⟨rfl, fq1⟩ := eq1
  rw [fq1]
  refine J_cvI (bI_congr (inR_nI_iff (by omega))) ?_
  refine J_if_neB dX10_take_4 (fun c2 => ?_) (fun c2 => ?_)
  · refine J_aload_n dX10_take_10 rfl ?_
    refine J_getR (r := some 186) dX10_take_11 fX10_101 s158 (fun _ => rfl) (g158_50 hG) ?_
    refine J_iload_n dX10_take_14 rfl ?_
    refine J_zaldN dX10_take_15 s186 (by decide) (by omega) ?_
    refine J_cvI ((hM.2.2.2.2.2.1.2.1 k hk)) ?_
    refine J_if_neN dX10_take_16 (by omega) (fun c3 => ?_) (fun c3 => ?_)
    · exact (show False by omega).elim
    · refine J_bipush (x := (-4)) dX10_take_19 (by decide) ?_
      exact J_retI dX10_take_21 rfl ⟨rfl, hM, Fr.rf⟩
  · exact (show False by omega).elim
theorem c_X10_take_no {h : PH} {A : AS} {k : Int32} (hG : GR h.2.2) (hM : MI h A) (hW : WF A) (hno : ¬ inR k 3) : CtI mX10_take h [pR (some 158), pI k] (fun v h' => v = -2 ∧ MP h h' A) := by
  have bN := hW.1
  have bk := hW.wk
  have bc := hW.cs
  have bw := hW.wn
  have bt := hW.tn
  have bf := hW.fn
  have bo : aR A 0 0 < 2 := hW.on (by decide)
  have bl : (aL A).1 < 2 := hW.2.2.2.2.1.1
  refine Ct.of (L := [some (pR (some 158)), some (pI k), none]) rfl rfl (Nat.le_of_ble_eq_true rfl) rfl ?_
  refine J_iload_n dX10_take_0 rfl ?_
  refine J_cSI (as := [pI k]) (st := []) dX10_take_1 lX10_392 okX10_isSlot sX10_isSlot rfl rfl (Nat.le_of_ble_eq_true rfl) ⟨Nat.le_of_ble_eq_true rfl, Nat.le_of_ble_eq_true rfl⟩ CR.f (c_X10_isSlot) (fun vq1 gq1 eq1 => ?_)
  obtain ⟨rfl, fq1⟩ := eq1
  rw [fq1]
  refine J_if_neB dX10_take_4 (fun d1 => ?_) (fun d1 => ?_)
  · exact absurd d1 hno
  · refine J_bipush (x := (-2)) dX10_take_7 (by decide) ?_
    exact J_retI dX10_take_9 rfl ⟨rfl, hM, Fr.rf⟩
theorem c_X9_keep {h : PH} {p : Nat} {A : AS} {k : Int32} (hG : GR h.2.2) (hX : XI h p A) (hW : WF A) : CtI mX9_keep h [pR (some 0), pI k] (fun v h' => v = keepA A k ∧ XP h h' p (keepS A k)) := by
  by_cases hok : inR k 3 ∧ aR A 0 0 = 1
  · obtain ⟨h1, h2⟩ := id hok
    obtain ⟨k, hk, rfl⟩ := inR_of h1
    rw [keepA, keepS, if_pos h1, if_pos h2, if_pos hok, cl, nI_clamp (by omega)]
    exact c_X9_keep_in hG hX hW hk h2
  · have e : keepA A k = if inR k 3 then -4 else -2 := by
      unfold keepA
      by_cases z : inR k 3
      · rw [if_pos z, if_pos z, if_neg (fun y => hok ⟨z, y⟩)]
      · rw [if_neg z, if_neg z]
    rw [e, keepS, if_neg hok]
    exact c_X9_keep_no hG hX hW hok
theorem c_X9_take {h : PH} {p : Nat} {A : AS} {k : Int32} (hG : GR h.2.2) (hX : XI h p A) (hW : WF A) : CtI mX9_take h [pR (some 0), pI k] (fun v h' => v = takeA A k ∧ XP h h' p (takeS A k)) := by
  by_cases h1 : inR k 3
  · obtain ⟨k, hk, rfl⟩ := inR_of h1
    rw [takeA, takeS, if_pos h1, cl, nI_clamp (by omega)]
    by_cases h2 : aR A (k + 1) 0 = 1
    · rw [if_pos h2, if_pos ⟨h1, h2⟩]
      exact c_X9_take_in hG hX hW hk h2
    · rw [if_neg h2, if_neg (fun z => h2 z.2)]
      exact c_X9_take_off hG hX hW hk h2
  · rw [takeA, takeS, if_neg h1, if_neg (fun z => h1 z.1)]
    exact c_X9_take_no hG hX hW h1
theorem c_X10_keep {h : PH} {A : AS} {k : Int32} (hG : GR h.2.2) (hM : MI h A) (hW : WF A) : CtI mX10_keep h [pR (some 158), pI k] (fun v h' => v = keepA A k ∧ MP h h' (keepS A k)) := by
  by_cases hok : inR k 3 ∧ aR A 0 0 = 1
  · obtain ⟨h1, h2⟩ := id hok
    obtain ⟨k, hk, rfl⟩ := inR_of h1
    rw [keepA, keepS, if_pos h1, if_pos h2, if_pos hok, cl, nI_clamp (by omega)]
    exact c_X10_keep_in hG hM hW hk h2
  · have e : keepA A k = if inR k 3 then -4 else -2 := by
      unfold keepA
      by_cases z : inR k 3
      · rw [if_pos z, if_pos z, if_neg (fun y => hok ⟨z, y⟩)]
      · rw [if_neg z, if_neg z]
    rw [e, keepS, if_neg hok]
    exact c_X10_keep_no hG hM hW hok
theorem c_X10_take {h : PH} {A : AS} {k : Int32} (hG : GR h.2.2) (hM : MI h A) (hW : WF A) : CtI mX10_take h [pR (some 158), pI k] (fun v h' => v = takeA A k ∧ MP h h' (takeS A k)) := by
  by_cases h1 : inR k 3
  · obtain ⟨k, hk, rfl⟩ := inR_of h1
    rw [takeA, takeS, if_pos h1, cl, nI_clamp (by omega)]
    by_cases h2 : aR A (k + 1) 0 = 1
    · rw [if_pos h2, if_pos ⟨h1, h2⟩]
      exact c_X10_take_in hG hM hW hk h2
    · rw [if_neg h2, if_neg (fun z => h2 z.2)]
      exact c_X10_take_off hG hM hW hk h2
  · rw [takeA, takeS, if_neg h1, if_neg (fun z => h1 z.1)]
    exact c_X10_take_no hG hM hW h1
