theorem c_X9_safe_in {h : PH} {p : Nat} {A : AS} {t q w b : Nat} (hG : GR h.2.2) (hX : XI h p A) (hW : WF A) (ht : t < aP A 0 3 0) (hq : q < 41) (hw : w < aP A 0 2 0) (bb : b < 2) : CtL mX9_safe h [pR (some 0), pI (nI t), pI (nI q), pI (nI w), pI (nI b)] (fun v h' => v = lstA (SF A t q w) (10 ^ aP A 0 0 0) b ∧ XP h h' p A) := by
  have bN := hW.1
  have bk := hW.wk
  have bc := hW.cs
  have bw := hW.wn
  have bt := hW.tn
  have bf := hW.fn
  have hok : okO (aP A) (nI t) (nI q) (nI w) := ⟨inR_nI ht (by omega), inR_nI hq (by omega), Or.inl (inR_nI hw (by omega))⟩
  have hF : Fr 92 102 h h := Fr.rf
  have p5 := pow5 hW.wk.2
  have p0 : 0 < 10 ^ aP A 0 0 0 := Nat.pow_pos (by decide)
  have p6 : 10 ^ (aP A 0 0 0 + 1) = 10 ^ aP A 0 0 0 * 10 := Nat.pow_succ ..
  have sb := SF_b (q := q) hW ht (show w < 4 by omega) (by omega)
  refine Ct.of (L := [some (pR (some 0)), some (pI (nI t)), some (pI (nI q)), some (pI (nI w)), some (pI (nI b)), none, none]) rfl rfl (Nat.le_of_ble_eq_true rfl) rfl ?_
  refine J_aload_n dX9_safe_0 rfl ?_
  refine J_iload_n dX9_safe_1 rfl ?_
  refine J_iload_n dX9_safe_2 rfl ?_
  refine J_iload_n dX9_safe_3 rfl ?_
  refine J_cVI (ci := 9) (c := 0) (as := [pI (nI t), pI (nI q), pI (nI w)]) (st := []) dX9_safe_4 lX9_178 okX9_isOutlook vX9_isOutlook s0 (by decide) rfl rfl rfl (Nat.le_of_ble_eq_true rfl) ⟨Nat.le_of_ble_eq_true rfl, Nat.le_of_ble_eq_true rfl⟩ CR.f (c_X9_isOutlook hG hX hW) (fun vq1 gq1 eq1 => ?_)
  obtain ⟨rfl, fq1⟩ := eq1
  rw [fq1]
  refine J_if_neB dX9_safe_7 (fun c2 => ?_) (fun c2 => ?_)
  · refine J_aload_n dX9_safe_14 rfl ?_
    refine J_getR (r := some 92) dX9_safe_15 fX9_37 s0 (fun _ => rfl) (g0_5 hG) ?_
    refine J_cVV (ci := 2) (c := 92) (as := []) (st := []) dX9_safe_18 lX9_201 okX2_valueSafety vX2_valueSafety s92 (by decide) rfl rfl rfl (Nat.le_of_ble_eq_true rfl) ⟨Nat.le_of_ble_eq_true rfl, Nat.le_of_ble_eq_true rfl⟩ CR.f (c_X2_valueSafety hG) (fun gs es => ?_)
    have zO : OL gs 1 (h.2.1 92 6) (h.2.1 92 7) (h.2.1 92 8) (h.2.1 92 9) := by rw [es]; exact ⟨rI_s, rfl, rfl, rfl, rfl, by decide⟩
    have zE : gs.2.1 92 10 = h.2.1 92 10 := by rw [es]; rfl
    have f1 : Fr 92 92 h gs := by rw [es]; exact Fr.sI (by decide) (by decide)
    have hG := f1.g hG
    have hX := hX.fr hW f1 (by decide) (by decide)
    have hF := hF.tr (f1.mo (by decide) (by decide))
    refine J_aload_n dX9_safe_21 rfl ?_
    refine J_aload_n dX9_safe_22 rfl ?_
    refine J_getR (r := some p) dX9_safe_23 fX9_20 s0 (fun _ => rfl) (hX.cu) ?_
    refine J_getR (r := some (p + 7)) dX9_safe_26 fX9_133 hX.po.s (fun _ => rfl) (hX.po.e10 hG) ?_
    refine J_iload_n dX9_safe_29 rfl ?_
    refine J_aald4N (r := some (p + 9 + 7 * t)) dX9_safe_30 hX.po.s7 (by decide) (by omega) (hX.po.eth hG (by omega)) ?_
    refine J_iload_n dX9_safe_31 rfl ?_
    refine J_iload_n dX9_safe_32 rfl ?_
    refine J_cVL (ci := 9) (c := 0) (as := [pR (some (p + 9 + 7 * t)), pI (nI q), pI (nI w)]) (st := []) dX9_safe_33 lX9_187 okX9_valueAt vX9_valueAt s0 (by decide) rfl rfl rfl (Nat.le_of_ble_eq_true rfl) ⟨Nat.le_of_ble_eq_true rfl, Nat.le_of_ble_eq_true rfl⟩ CR.f (c_X9_valueAt_in hG hX hW ht zO zE (by omega) (by omega)) (fun vg3 g3 eg3 => ?_)
    obtain ⟨rfl, f2⟩ := eg3
    have hG := f2.g hG
    have hX := hX.fr hW f2 (by decide) (by decide)
    have hF := hF.tr (f2.mo (by decide) (by decide))
    refine J_cvL (y := lN (SF A t q w)) (safe_in (by omega)) ?_
    refine J_lstore (L' := [some (pR (some 0)), some (pI (nI t)), some (pI (nI q)), some (pI (nI w)), some (pI (nI b)), some (pL (lN (SF A t q w))), none]) dX9_safe_36 (by decide) rfl ?_
    refine J_lload dX9_safe_38 rfl ?_
    refine J_aload_n dX9_safe_40 rfl ?_
    refine J_iload_n dX9_safe_41 rfl ?_
    refine J_cVL (ci := 9) (c := 0) (as := [pI (nI w)]) (st := [pL (lN (SF A t q w))]) dX9_safe_42 lX9_195 okX9_waysIn vX9_waysIn s0 (by decide) rfl rfl rfl (Nat.le_of_ble_eq_true rfl) ⟨Nat.le_of_ble_eq_true rfl, Nat.le_of_ble_eq_true rfl⟩ CR.f (c_X9_waysIn_in hG hX hW (by omega)) (fun vq4 gq4 eq4 => ?_)
    obtain ⟨rfl, fq4⟩ := eq4
    rw [fq4]
    refine J_cvL (y := lN (10 ^ aP A 0 0 0)) (tenL_pow _) ?_
    refine J_iload dX9_safe_45 rfl ?_
    refine J_cSL (as := [pL (lN (SF A t q w)), pL (lN (10 ^ aP A 0 0 0)), pI (nI b)]) (st := []) dX9_safe_47 lX9_204 okX9_leastNumber sX9_leastNumber rfl rfl (Nat.le_of_ble_eq_true rfl) ⟨Nat.le_of_ble_eq_true rfl, Nat.le_of_ble_eq_true rfl⟩ CR.f (c_X9_leastNumber (by omega) (by omega) (by omega) bb) (fun vq5 gq5 eq5 => ?_)
    obtain ⟨rfl, fq5⟩ := eq5
    rw [fq5]
    exact J_retL dX9_safe_50 rfl ⟨rfl, hX, hF.mo (by decide) (by decide)⟩
  · exact absurd hok c2
theorem c_X9_safe_any {h : PH} {p : Nat} {A : AS} {t q b : Nat} (hG : GR h.2.2) (hX : XI h p A) (hW : WF A) (ht : t < aP A 0 3 0) (hq : q < 41) (hn : 0 < aP A 0 2 0) (bb : b < 2) : CtL mX9_safe h [pR (some 0), pI (nI t), pI (nI q), pI (-1), pI (nI b)] (fun v h' => v = lstA (SO A t q) (10 ^ (aP A 0 0 0 + 1)) b ∧ XP h h' p A) := by
  have bN := hW.1
  have bk := hW.wk
  have bc := hW.cs
  have bw := hW.wn
  have bt := hW.tn
  have bf := hW.fn
  have hok : okO (aP A) (nI t) (nI q) (-1) := ⟨inR_nI ht (by omega), inR_nI hq (by omega), Or.inr ⟨rfl, hn⟩⟩
  have hF : Fr 92 102 h h := Fr.rf
  have p5 := pow5 hW.wk.2
  have p0 : 0 < 10 ^ aP A 0 0 0 := Nat.pow_pos (by decide)
  have p6 : 10 ^ (aP A 0 0 0 + 1) = 10 ^ aP A 0 0 0 * 10 := Nat.pow_succ ..
  have sb := SO_b (q := q) hW ht hn (by omega)
  refine Ct.of (L := [some (pR (some 0)), some (pI (nI t)), some (pI (nI q)), some (pI ((-1))), some (pI (nI b)), none, none]) rfl rfl (Nat.le_of_ble_eq_true rfl) rfl ?_
  refine J_aload_n dX9_safe_0 rfl ?_
  refine J_iload_n dX9_safe_1 rfl ?_
  refine J_iload_n dX9_safe_2 rfl ?_
  refine J_iload_n dX9_safe_3 rfl ?_
  refine J_cVI (ci := 9) (c := 0) (as := [pI (nI t), pI (nI q), pI ((-1))]) (st := []) dX9_safe_4 lX9_178 okX9_isOutlook vX9_isOutlook s0 (by decide) rfl rfl rfl (Nat.le_of_ble_eq_true rfl) ⟨Nat.le_of_ble_eq_true rfl, Nat.le_of_ble_eq_true rfl⟩ CR.f (c_X9_isOutlook hG hX hW) (fun vq1 gq1 eq1 => ?_)
  obtain ⟨rfl, fq1⟩ := eq1
  rw [fq1]
  refine J_if_neB dX9_safe_7 (fun c2 => ?_) (fun c2 => ?_)
  · refine J_aload_n dX9_safe_14 rfl ?_
    refine J_getR (r := some 92) dX9_safe_15 fX9_37 s0 (fun _ => rfl) (g0_5 hG) ?_
    refine J_cVV (ci := 2) (c := 92) (as := []) (st := []) dX9_safe_18 lX9_201 okX2_valueSafety vX2_valueSafety s92 (by decide) rfl rfl rfl (Nat.le_of_ble_eq_true rfl) ⟨Nat.le_of_ble_eq_true rfl, Nat.le_of_ble_eq_true rfl⟩ CR.f (c_X2_valueSafety hG) (fun gs es => ?_)
    have zO : OL gs 1 (h.2.1 92 6) (h.2.1 92 7) (h.2.1 92 8) (h.2.1 92 9) := by rw [es]; exact ⟨rI_s, rfl, rfl, rfl, rfl, by decide⟩
    have zE : gs.2.1 92 10 = h.2.1 92 10 := by rw [es]; rfl
    have f1 : Fr 92 92 h gs := by rw [es]; exact Fr.sI (by decide) (by decide)
    have hG := f1.g hG
    have hX := hX.fr hW f1 (by decide) (by decide)
    have hF := hF.tr (f1.mo (by decide) (by decide))
    refine J_aload_n dX9_safe_21 rfl ?_
    refine J_aload_n dX9_safe_22 rfl ?_
    refine J_getR (r := some p) dX9_safe_23 fX9_20 s0 (fun _ => rfl) (hX.cu) ?_
    refine J_getR (r := some (p + 7)) dX9_safe_26 fX9_133 hX.po.s (fun _ => rfl) (hX.po.e10 hG) ?_
    refine J_iload_n dX9_safe_29 rfl ?_
    refine J_aald4N (r := some (p + 9 + 7 * t)) dX9_safe_30 hX.po.s7 (by decide) (by omega) (hX.po.eth hG (by omega)) ?_
    refine J_iload_n dX9_safe_31 rfl ?_
    refine J_iload_n dX9_safe_32 rfl ?_
    refine J_cVL (ci := 9) (c := 0) (as := [pR (some (p + 9 + 7 * t)), pI (nI q), pI ((-1))]) (st := []) dX9_safe_33 lX9_187 okX9_valueAt vX9_valueAt s0 (by decide) rfl rfl rfl (Nat.le_of_ble_eq_true rfl) ⟨Nat.le_of_ble_eq_true rfl, Nat.le_of_ble_eq_true rfl⟩ CR.f (c_X9_valueAt_any hG hX hW ht zO zE (by omega)) (fun vg3 g3 eg3 => ?_)
    obtain ⟨rfl, f2⟩ := eg3
    have hG := f2.g hG
    have hX := hX.fr hW f2 (by decide) (by decide)
    have hF := hF.tr (f2.mo (by decide) (by decide))
    refine J_cvL (y := lN (SO A t q)) (safe_any (by omega)) ?_
    refine J_lstore (L' := [some (pR (some 0)), some (pI (nI t)), some (pI (nI q)), some (pI ((-1))), some (pI (nI b)), some (pL (lN (SO A t q))), none]) dX9_safe_36 (by decide) rfl ?_
    refine J_lload dX9_safe_38 rfl ?_
    refine J_aload_n dX9_safe_40 rfl ?_
    refine J_iload_n dX9_safe_41 rfl ?_
    refine J_cVL (ci := 9) (c := 0) (as := [pI ((-1))]) (st := [pL (lN (SO A t q))]) dX9_safe_42 lX9_195 okX9_waysIn vX9_waysIn s0 (by decide) rfl rfl rfl (Nat.le_of_ble_eq_true rfl) ⟨Nat.le_of_ble_eq_true rfl, Nat.le_of_ble_eq_true rfl⟩ CR.f (c_X9_waysIn_any hG hX hW) (fun vq4 gq4 eq4 => ?_)
    obtain ⟨rfl, fq4⟩ := eq4
    rw [fq4]
    refine J_cvL (y := lN (10 ^ (aP A 0 0 0 + 1))) (tenL_pow _) ?_
    refine J_iload dX9_safe_45 rfl ?_
    refine J_cSL (as := [pL (lN (SO A t q)), pL (lN (10 ^ (aP A 0 0 0 + 1))), pI (nI b)]) (st := []) dX9_safe_47 lX9_204 okX9_leastNumber sX9_leastNumber rfl rfl (Nat.le_of_ble_eq_true rfl) ⟨Nat.le_of_ble_eq_true rfl, Nat.le_of_ble_eq_true rfl⟩ CR.f (c_X9_leastNumber (by omega) (by omega) (by omega) bb) (fun vq5 gq5 eq5 => ?_)
    obtain ⟨rfl, fq5⟩ := eq5
    rw [fq5]
    exact J_retL dX9_safe_50 rfl ⟨rfl, hX, hF.mo (by decide) (by decide)⟩
  · exact absurd hok c2
theorem c_X9_safe_no {h : PH} {p : Nat} {A : AS} {t q w : Int32} {b : Nat} (hG : GR h.2.2) (hX : XI h p A) (hW : WF A) (hno : ¬ okO (aP A) t q w) : CtL mX9_safe h [pR (some 0), pI t, pI q, pI w, pI (nI b)] (fun v h' => v = -2 ∧ XP h h' p A) := by
  have bN := hW.1
  have bk := hW.wk
  have bc := hW.cs
  have bw := hW.wn
  have bt := hW.tn
  have bf := hW.fn
  refine Ct.of (L := [some (pR (some 0)), some (pI t), some (pI q), some (pI w), some (pI (nI b)), none, none]) rfl rfl (Nat.le_of_ble_eq_true rfl) rfl ?_
  refine J_aload_n dX9_safe_0 rfl ?_
  refine J_iload_n dX9_safe_1 rfl ?_
  refine J_iload_n dX9_safe_2 rfl ?_
  refine J_iload_n dX9_safe_3 rfl ?_
  refine J_cVI (ci := 9) (c := 0) (as := [pI t, pI q, pI w]) (st := []) dX9_safe_4 lX9_178 okX9_isOutlook vX9_isOutlook s0 (by decide) rfl rfl rfl (Nat.le_of_ble_eq_true rfl) ⟨Nat.le_of_ble_eq_true rfl, Nat.le_of_ble_eq_true rfl⟩ CR.f (c_X9_isOutlook hG hX hW) (fun vq1 gq1 eq1 => ?_)
  obtain ⟨rfl, fq1⟩ := eq1
  rw [fq1]
  refine J_if_neB dX9_safe_7 (fun c2 => ?_) (fun c2 => ?_)
  · exact absurd c2 hno
  · refine J_ldc2 dX9_safe_10 kX9_199 ?_
    exact J_retL dX9_safe_13 rfl ⟨rfl, hX, Fr.rf⟩
theorem c_X9_safe {h : PH} {p : Nat} {A : AS} {t q w : Int32} {b : Nat} (hG : GR h.2.2) (hX : XI h p A) (hW : WF A) (bb : b < 2) : CtL mX9_safe h [pR (some 0), pI t, pI q, pI w, pI (nI b)] (fun v h' => v = safeA A t q w b ∧ XP h h' p A) := by
  by_cases hok : okO (aP A) t q w
  · obtain ⟨h1, h2, h3⟩ := id hok
    obtain ⟨t, ht, rfl⟩ := inR_of h1
    obtain ⟨q, hq, rfl⟩ := inR_of h2
    have bt := hW.tn
    have bw := hW.wn
    rcases h3 with h3 | ⟨rfl, hn⟩
    · obtain ⟨w, hw, rfl⟩ := inR_of h3
      rw [safeA, if_pos hok, if_neg (nI_m1 (by omega)), cl, cl, cl, nI_clamp (by omega), nI_clamp (by omega), nI_clamp (by omega)]
      exact c_X9_safe_in hG hX hW ht hq hw bb
    · rw [safeA, if_pos hok, if_pos rfl, cl, cl, nI_clamp (by omega), nI_clamp (by omega)]
      exact c_X9_safe_any hG hX hW ht hq hn bb
  · rw [safeA, if_neg hok]
    exact c_X9_safe_no hG hX hW hok
theorem c_X10_safe_in {h : PH} {A : AS} {t q w b : Nat} (hG : GR h.2.2) (hM : MI h A) (hW : WF A) (ht : t < aP A 0 3 0) (hq : q < 41) (hw : w < aP A 0 2 0) (bb : b < 2) : CtL mX10_safe h [pR (some 158), pI (nI t), pI (nI q), pI (nI w), pI (nI b)] (fun v h' => v = lstA (SF A t q w) (10 ^ aP A 0 0 0) b ∧ MP h h' A) := by
  have bN := hW.1
  have bk := hW.wk
  have bc := hW.cs
  have bw := hW.wn
  have bt := hW.tn
  have bf := hW.fn
  have hok : okO (aP A) (nI t) (nI q) (nI w) := ⟨inR_nI ht (by omega), inR_nI hq (by omega), Or.inl (inR_nI hw (by omega))⟩
  have hQ : MFr h h := MFr.rf
  have p5 := pow5 hW.wk.2
  have p0 : 0 < 10 ^ aP A 0 0 0 := Nat.pow_pos (by decide)
  have p6 : 10 ^ (aP A 0 0 0 + 1) = 10 ^ aP A 0 0 0 * 10 := Nat.pow_succ ..
  have sb := SF_b (q := q) hW ht (show w < 4 by omega) (by omega)
  refine Ct.of (L := [some (pR (some 158)), some (pI (nI t)), some (pI (nI q)), some (pI (nI w)), some (pI (nI b))]) rfl rfl (Nat.le_of_ble_eq_true rfl) rfl ?_
  refine J_aload_n dX10_safe_0 rfl ?_
  refine J_iload_n dX10_safe_1 rfl ?_
  refine J_cVI (ci := 10) (c := 158) (as := [pI (nI t)]) (st := []) dX10_safe_2 lX10_243 okX10_isThing vX10_isThing s158 (by decide) rfl rfl rfl (Nat.le_of_ble_eq_true rfl) ⟨Nat.le_of_ble_eq_true rfl, Nat.le_of_ble_eq_true rfl⟩ CR.f (c_X10_isThing hG (hM.nm (by decide)) (by omega)) (fun vq1 gq1 eq1 => ?_)
  obtain ⟨rfl, fq1⟩ := eq1
  rw [fq1]
  refine J_cvI (bI_congr (inR_nI_iff (by omega))) ?_
  refine J_if_eqB dX10_safe_5 (fun c2 => ?_) (fun c2 => ?_)
  · exact (show False by omega).elim
  · refine J_iload_n dX10_safe_8 rfl ?_
    refine J_cSI (as := [pI (nI q)]) (st := []) dX10_safe_9 lX10_303 okX10_isOrder sX10_isOrder rfl rfl (Nat.le_of_ble_eq_true rfl) ⟨Nat.le_of_ble_eq_true rfl, Nat.le_of_ble_eq_true rfl⟩ CR.f (c_X10_isOrder) (fun vq3 gq3 eq3 => ?_)
    obtain ⟨rfl, fq3⟩ := eq3
    rw [fq3]
    refine J_cvI (bI_congr (inR_nI_iff (by omega))) ?_
    refine J_if_eqB dX10_safe_12 (fun c4 => ?_) (fun c4 => ?_)
    · exact (show False by omega).elim
    · refine J_aload_n dX10_safe_15 rfl ?_
      refine J_iload_n dX10_safe_16 rfl ?_
      refine J_cVI (ci := 10) (c := 158) (as := [pI (nI w)]) (st := []) dX10_safe_17 lX10_306 okX10_isAsked vX10_isAsked s158 (by decide) rfl rfl rfl (Nat.le_of_ble_eq_true rfl) ⟨Nat.le_of_ble_eq_true rfl, Nat.le_of_ble_eq_true rfl⟩ CR.f (c_X10_isAsked hG hM hW) (fun vq5 gq5 eq5 => ?_)
      obtain ⟨rfl, fq5⟩ := eq5
      rw [fq5]
      refine J_if_neB dX10_safe_20 (fun c6 => ?_) (fun c6 => ?_)
      · refine J_iload_n dX10_safe_27 rfl ?_
        refine J_iconst (x := -1) dX10_safe_28 (by decide) ?_
        refine J_icmp_ne dX10_safe_29 (fun c7 => ?_) (fun c7 => ?_)
        · refine J_aload_n dX10_safe_60 rfl ?_
          refine J_iload_n dX10_safe_61 rfl ?_
          refine J_iload_n dX10_safe_62 rfl ?_
          refine J_iload_n dX10_safe_63 rfl ?_
          refine J_cVL (ci := 10) (c := 158) (as := [pI (nI t), pI (nI q), pI (nI w)]) (st := []) dX10_safe_64 lX10_325 okX10_safeIn vX10_safeIn s158 (by decide) rfl rfl rfl (Nat.le_of_ble_eq_true rfl) ⟨Nat.le_of_ble_eq_true rfl, Nat.le_of_ble_eq_true rfl⟩ CR.f (c_X10_safeIn hG (by omega) (by omega) (hM.tma hW ht).tm (hM.wm hW ht (by omega)) (hM.nm (by decide)) (by omega) (by omega)) (fun vg8 g8 eg8 => ?_)
          obtain ⟨rfl, f1⟩ := eg8
          have hG := f1.g hG
          have hM := hM.mq (.of f1)
          have hQ := hQ.tr (.of f1)
          refine J_cvL (y := lN (SF A t q w)) SF_L ?_
          refine J_aload_n dX10_safe_67 rfl ?_
          refine J_aload_n dX10_safe_68 rfl ?_
          refine J_getR (r := some 160) dX10_safe_69 fX10_17 s158 (fun _ => rfl) (g158_12 hG) ?_
          refine J_iconstN (n := 0) dX10_safe_72 ?_
          refine J_ialdN dX10_safe_73 s160 (by decide) (by omega) ?_
          refine J_cvI ((hM.nm (k := 0) (by decide))) ?_
          refine J_cVL (ci := 10) (c := 158) (as := [pI (nI (aP A 0 0 0))]) (st := [pL (lN (SF A t q w))]) dX10_safe_74 lX10_290 okX10_tens vX10_tens s158 (by decide) rfl rfl rfl (Nat.le_of_ble_eq_true rfl) ⟨Nat.le_of_ble_eq_true rfl, Nat.le_of_ble_eq_true rfl⟩ CR.f (c_X10_tens (by omega)) (fun vq9 gq9 eq9 => ?_)
          obtain ⟨rfl, fq9⟩ := eq9
          rw [fq9]
          refine J_cvL (y := lN (10 ^ aP A 0 0 0)) (tenL_pow _) ?_
          refine J_iload dX10_safe_77 rfl ?_
          refine J_cSL (as := [pL (lN (SF A t q w)), pL (lN (10 ^ aP A 0 0 0)), pI (nI b)]) (st := []) dX10_safe_79 lX10_337 okX10_leastOf sX10_leastOf rfl rfl (Nat.le_of_ble_eq_true rfl) ⟨Nat.le_of_ble_eq_true rfl, Nat.le_of_ble_eq_true rfl⟩ CR.f (c_X10_leastOf (by omega) (by omega) (by omega) bb) (fun vq10 gq10 eq10 => ?_)
          obtain ⟨rfl, fq10⟩ := eq10
          rw [fq10]
          exact J_retL dX10_safe_82 rfl ⟨rfl, hM, hQ.fr⟩
        · exact absurd c7 (nI_m1 (by omega))
      · exact absurd hok.2.2 c6
theorem c_X10_safe_any {h : PH} {A : AS} {t q b : Nat} (hG : GR h.2.2) (hM : MI h A) (hW : WF A) (ht : t < aP A 0 3 0) (hq : q < 41) (hn : 0 < aP A 0 2 0) (bb : b < 2) : CtL mX10_safe h [pR (some 158), pI (nI t), pI (nI q), pI (-1), pI (nI b)] (fun v h' => v = lstA (SO A t q) (10 ^ (aP A 0 0 0 + 1)) b ∧ MP h h' A) := by
  have bN := hW.1
  have bk := hW.wk
  have bc := hW.cs
  have bw := hW.wn
  have bt := hW.tn
  have bf := hW.fn
  have hok : okO (aP A) (nI t) (nI q) (-1) := ⟨inR_nI ht (by omega), inR_nI hq (by omega), Or.inr ⟨rfl, hn⟩⟩
  have hQ : MFr h h := MFr.rf
  have p5 := pow5 hW.wk.2
  have p0 : 0 < 10 ^ aP A 0 0 0 := Nat.pow_pos (by decide)
  have p6 : 10 ^ (aP A 0 0 0 + 1) = 10 ^ aP A 0 0 0 * 10 := Nat.pow_succ ..
  have sb := SO_b (q := q) hW ht hn (by omega)
  refine Ct.of (L := [some (pR (some 158)), some (pI (nI t)), some (pI (nI q)), some (pI ((-1))), some (pI (nI b))]) rfl rfl (Nat.le_of_ble_eq_true rfl) rfl ?_
  refine J_aload_n dX10_safe_0 rfl ?_
  refine J_iload_n dX10_safe_1 rfl ?_
  refine J_cVI (ci := 10) (c := 158) (as := [pI (nI t)]) (st := []) dX10_safe_2 lX10_243 okX10_isThing vX10_isThing s158 (by decide) rfl rfl rfl (Nat.le_of_ble_eq_true rfl) ⟨Nat.le_of_ble_eq_true rfl, Nat.le_of_ble_eq_true rfl⟩ CR.f (c_X10_isThing hG (hM.nm (by decide)) (by omega)) (fun vq1 gq1 eq1 => ?_)
  obtain ⟨rfl, fq1⟩ := eq1
  rw [fq1]
  refine J_cvI (bI_congr (inR_nI_iff (by omega))) ?_
  refine J_if_eqB dX10_safe_5 (fun c2 => ?_) (fun c2 => ?_)
  · exact (show False by omega).elim
  · refine J_iload_n dX10_safe_8 rfl ?_
    refine J_cSI (as := [pI (nI q)]) (st := []) dX10_safe_9 lX10_303 okX10_isOrder sX10_isOrder rfl rfl (Nat.le_of_ble_eq_true rfl) ⟨Nat.le_of_ble_eq_true rfl, Nat.le_of_ble_eq_true rfl⟩ CR.f (c_X10_isOrder) (fun vq3 gq3 eq3 => ?_)
    obtain ⟨rfl, fq3⟩ := eq3
    rw [fq3]
    refine J_cvI (bI_congr (inR_nI_iff (by omega))) ?_
    refine J_if_eqB dX10_safe_12 (fun c4 => ?_) (fun c4 => ?_)
    · exact (show False by omega).elim
    · refine J_aload_n dX10_safe_15 rfl ?_
      refine J_iload_n dX10_safe_16 rfl ?_
      refine J_cVI (ci := 10) (c := 158) (as := [pI ((-1))]) (st := []) dX10_safe_17 lX10_306 okX10_isAsked vX10_isAsked s158 (by decide) rfl rfl rfl (Nat.le_of_ble_eq_true rfl) ⟨Nat.le_of_ble_eq_true rfl, Nat.le_of_ble_eq_true rfl⟩ CR.f (c_X10_isAsked hG hM hW) (fun vq5 gq5 eq5 => ?_)
      obtain ⟨rfl, fq5⟩ := eq5
      rw [fq5]
      refine J_if_neB dX10_safe_20 (fun c6 => ?_) (fun c6 => ?_)
      · refine J_iload_n dX10_safe_27 rfl ?_
        refine J_iconst (x := -1) dX10_safe_28 (by decide) ?_
        refine J_icmp_ne dX10_safe_29 (fun c7 => ?_) (fun c7 => ?_)
        · exact absurd rfl c7
        · refine J_aload_n dX10_safe_32 rfl ?_
          refine J_iload_n dX10_safe_33 rfl ?_
          refine J_iload_n dX10_safe_34 rfl ?_
          refine J_cVL (ci := 10) (c := 158) (as := [pI (nI t), pI (nI q)]) (st := []) dX10_safe_35 lX10_334 okX10_safeOf vX10_safeOf s158 (by decide) rfl rfl rfl (Nat.le_of_ble_eq_true rfl) ⟨Nat.le_of_ble_eq_true rfl, Nat.le_of_ble_eq_true rfl⟩ CR.f (c_X10_safeOf hG (by omega) (hM.tma hW ht).tm (hM.nm (by decide)) (by omega) (hM.nm (by decide)) (by omega) (x := fun w => aP A 1 w 0) (fun w hw => ⟨hM.x hw, hW.x hw⟩) (u := aV A t) (fun w hw => hM.wm hW ht (by omega)) (by omega)) (fun vg8 g8 eg8 => ?_)
          obtain ⟨rfl, f1⟩ := eg8
          have hG := f1.g hG
          have hM := hM.mq (.of f1)
          have hQ := hQ.tr (.of f1)
          refine J_cvL (y := lN (SO A t q)) SO_L ?_
          refine J_ldc2 dX10_safe_38 kX10_281 ?_
          refine J_aload_n dX10_safe_41 rfl ?_
          refine J_aload_n dX10_safe_42 rfl ?_
          refine J_getR (r := some 160) dX10_safe_43 fX10_17 s158 (fun _ => rfl) (g158_12 hG) ?_
          refine J_iconstN (n := 0) dX10_safe_46 ?_
          refine J_ialdN dX10_safe_47 s160 (by decide) (by omega) ?_
          refine J_cvI ((hM.nm (k := 0) (by decide))) ?_
          refine J_cVL (ci := 10) (c := 158) (as := [pI (nI (aP A 0 0 0))]) (st := [pL 10, pL (lN (SO A t q))]) dX10_safe_48 lX10_290 okX10_tens vX10_tens s158 (by decide) rfl rfl rfl (Nat.le_of_ble_eq_true rfl) ⟨Nat.le_of_ble_eq_true rfl, Nat.le_of_ble_eq_true rfl⟩ CR.f (c_X10_tens (by omega)) (fun vq9 gq9 eq9 => ?_)
          obtain ⟨rfl, fq9⟩ := eq9
          rw [fq9]
          refine J_cvL (y := lN (10 ^ aP A 0 0 0)) (tenL_pow _) ?_
          refine J_lmul dX10_safe_51 ?_
          refine J_cvL (y := lN (10 ^ (aP A 0 0 0 + 1))) (by rw [p6, Nat.mul_comm, ← lN_mul]; rfl) ?_
          refine J_iload dX10_safe_52 rfl ?_
          refine J_cSL (as := [pL (lN (SO A t q)), pL (lN (10 ^ (aP A 0 0 0 + 1))), pI (nI b)]) (st := []) dX10_safe_54 lX10_337 okX10_leastOf sX10_leastOf rfl rfl (Nat.le_of_ble_eq_true rfl) ⟨Nat.le_of_ble_eq_true rfl, Nat.le_of_ble_eq_true rfl⟩ CR.f (c_X10_leastOf (by omega) (by omega) (by omega) bb) (fun vq10 gq10 eq10 => ?_)
          obtain ⟨rfl, fq10⟩ := eq10
          rw [fq10]
          refine J_goto dX10_safe_57 ?_
          exact J_retL dX10_safe_82 rfl ⟨rfl, hM, hQ.fr⟩
      · exact absurd hok.2.2 c6
theorem c_X10_safe_no {h : PH} {A : AS} {t q w : Int32} {b : Nat} (hG : GR h.2.2) (hM : MI h A) (hW : WF A) (hno : ¬ okO (aP A) t q w) : CtL mX10_safe h [pR (some 158), pI t, pI q, pI w, pI (nI b)] (fun v h' => v = -2 ∧ MP h h' A) := by
  have bN := hW.1
  have bk := hW.wk
  have bc := hW.cs
  have bw := hW.wn
  have bt := hW.tn
  have bf := hW.fn
  refine Ct.of (L := [some (pR (some 158)), some (pI t), some (pI q), some (pI w), some (pI (nI b))]) rfl rfl (Nat.le_of_ble_eq_true rfl) rfl ?_
  refine J_aload_n dX10_safe_0 rfl ?_
  refine J_iload_n dX10_safe_1 rfl ?_
  refine J_cVI (ci := 10) (c := 158) (as := [pI t]) (st := []) dX10_safe_2 lX10_243 okX10_isThing vX10_isThing s158 (by decide) rfl rfl rfl (Nat.le_of_ble_eq_true rfl) ⟨Nat.le_of_ble_eq_true rfl, Nat.le_of_ble_eq_true rfl⟩ CR.f (c_X10_isThing hG (hM.nm (by decide)) (by omega)) (fun vq1 gq1 eq1 => ?_)
  obtain ⟨rfl, fq1⟩ := eq1
  rw [fq1]
  refine J_if_eqB dX10_safe_5 (fun d1 => ?_) (fun d1 => ?_)
  · refine J_ldc2 dX10_safe_23 kX10_332 ?_
    exact J_retL dX10_safe_26 rfl ⟨rfl, hM, Fr.rf⟩
  · refine J_iload_n dX10_safe_8 rfl ?_
    refine J_cSI (as := [pI q]) (st := []) dX10_safe_9 lX10_303 okX10_isOrder sX10_isOrder rfl rfl (Nat.le_of_ble_eq_true rfl) ⟨Nat.le_of_ble_eq_true rfl, Nat.le_of_ble_eq_true rfl⟩ CR.f (c_X10_isOrder) (fun vq3 gq3 eq3 => ?_)
    obtain ⟨rfl, fq3⟩ := eq3
    rw [fq3]
    refine J_if_eqB dX10_safe_12 (fun d2 => ?_) (fun d2 => ?_)
    · refine J_ldc2 dX10_safe_23 kX10_332 ?_
      exact J_retL dX10_safe_26 rfl ⟨rfl, hM, Fr.rf⟩
    · refine J_aload_n dX10_safe_15 rfl ?_
      refine J_iload_n dX10_safe_16 rfl ?_
      refine J_cVI (ci := 10) (c := 158) (as := [pI w]) (st := []) dX10_safe_17 lX10_306 okX10_isAsked vX10_isAsked s158 (by decide) rfl rfl rfl (Nat.le_of_ble_eq_true rfl) ⟨Nat.le_of_ble_eq_true rfl, Nat.le_of_ble_eq_true rfl⟩ CR.f (c_X10_isAsked hG hM hW) (fun vq5 gq5 eq5 => ?_)
      obtain ⟨rfl, fq5⟩ := eq5
      rw [fq5]
      refine J_if_neB dX10_safe_20 (fun d3 => ?_) (fun d3 => ?_)
      · exact absurd ⟨d1, d2, d3⟩ hno
      · refine J_ldc2 dX10_safe_23 kX10_332 ?_
        exact J_retL dX10_safe_26 rfl ⟨rfl, hM, Fr.rf⟩
theorem c_X10_safe {h : PH} {A : AS} {t q w : Int32} {b : Nat} (hG : GR h.2.2) (hM : MI h A) (hW : WF A) (bb : b < 2) : CtL mX10_safe h [pR (some 158), pI t, pI q, pI w, pI (nI b)] (fun v h' => v = safeA A t q w b ∧ MP h h' A) := by
  by_cases hok : okO (aP A) t q w
  · obtain ⟨h1, h2, h3⟩ := id hok
    obtain ⟨t, ht, rfl⟩ := inR_of h1
    obtain ⟨q, hq, rfl⟩ := inR_of h2
    have bt := hW.tn
    have bw := hW.wn
    rcases h3 with h3 | ⟨rfl, hn⟩
    · obtain ⟨w, hw, rfl⟩ := inR_of h3
      rw [safeA, if_pos hok, if_neg (nI_m1 (by omega)), cl, cl, cl, nI_clamp (by omega), nI_clamp (by omega), nI_clamp (by omega)]
      exact c_X10_safe_in hG hM hW ht hq hw bb
    · rw [safeA, if_pos hok, if_pos rfl, cl, cl, nI_clamp (by omega), nI_clamp (by omega)]
      exact c_X10_safe_any hG hM hW ht hq hn bb
  · rw [safeA, if_neg hok]
    exact c_X10_safe_no hG hM hW hok
theorem c_X9_one_in {h : PH} {p : Nat} {A : AS} {t : Nat} (hG : GR h.2.2) (hX : XI h p A) (hW : WF A) (ht : t < aP A 0 3 0) (hn : 0 < aP A 0 2 0) : CtI mX9_one h [pR (some 0), pI (nI t)] (fun v h' => v = nI (bst (sOf A t) 40) ∧ XP h h' p A) := by
  have bN := hW.1
  have bk := hW.wk
  have bc := hW.cs
  have bw := hW.wn
  have bt := hW.tn
  have bf := hW.fn
  have hF : Fr 92 102 h h := Fr.rf
  refine Ct.of (L := [some (pR (some 0)), some (pI (nI t))]) rfl rfl (Nat.le_of_ble_eq_true rfl) rfl ?_
  refine J_aload_n dX9_one_0 rfl ?_
  refine J_iload_n dX9_one_1 rfl ?_
  refine J_cVI (ci := 9) (c := 0) (as := [pI (nI t)]) (st := []) dX9_one_2 lX9_130 okX9_hasThing vX9_hasThing s0 (by decide) rfl rfl rfl (Nat.le_of_ble_eq_true rfl) ⟨Nat.le_of_ble_eq_true rfl, Nat.le_of_ble_eq_true rfl⟩ CR.f (c_X9_hasThing hG hX.po hX.cu hX.tn (by omega)) (fun vq1 gq1 eq1 => ?_)
  obtain ⟨rfl, fq1⟩ := eq1
  rw [fq1]
  refine J_cvI (bI_congr (inR_nI_iff (by omega))) ?_
  refine J_if_neB dX9_one_5 (fun c2 => ?_) (fun c2 => ?_)
  · refine J_aload_n dX9_one_11 rfl ?_
    refine J_getR (r := some p) dX9_one_12 fX9_20 s0 (fun _ => rfl) (hX.cu) ?_
    refine J_getI dX9_one_15 fX9_110 hX.po.s (fun _ => rfl) ?_
    refine J_cvI (hX.wn) ?_
    refine J_if_neN dX9_one_18 (by omega) (fun c3 => ?_) (fun c3 => ?_)
    · refine J_aload_n dX9_one_24 rfl ?_
      refine J_getR (r := some 92) dX9_one_25 fX9_37 s0 (fun _ => rfl) (g0_5 hG) ?_
      refine J_aload_n dX9_one_28 rfl ?_
      refine J_getR (r := some p) dX9_one_29 fX9_20 s0 (fun _ => rfl) (hX.cu) ?_
      refine J_aload_n dX9_one_32 rfl ?_
      refine J_getR (r := some p) dX9_one_33 fX9_20 s0 (fun _ => rfl) (hX.cu) ?_
      refine J_getR (r := some (p + 7)) dX9_one_36 fX9_133 hX.po.s (fun _ => rfl) (hX.po.e10 hG) ?_
      refine J_iload_n dX9_one_39 rfl ?_
      refine J_aald4N (r := some (p + 9 + 7 * t)) dX9_one_40 hX.po.s7 (by decide) (by omega) (hX.po.eth hG (by omega)) ?_
      refine J_aload_n dX9_one_41 rfl ?_
      refine J_getR (r := some p) dX9_one_42 fX9_20 s0 (fun _ => rfl) (hX.cu) ?_
      refine J_getR (r := some (p + 1)) dX9_one_45 fX9_127 hX.po.s (fun _ => rfl) (hX.po.e8 hG) ?_
      refine J_bipush (x := nI 40) dX9_one_48 (by decide) ?_
      refine J_cVV (ci := 2) (c := 92) (as := [pR (some p), pR (some (p + 9 + 7 * t)), pR (some (p + 1)), pI (nI 40)]) (st := []) dX9_one_50 lX9_228 okX2_scoreRow vX2_scoreRow s92 (by decide) rfl rfl rfl (Nat.le_of_ble_eq_true rfl) ⟨Nat.le_of_ble_eq_true rfl, Nat.le_of_ble_eq_true rfl⟩ CR.f (c_X2_scoreRow hG hX.po (hX.th hW ht) (hX.ta hW ht) hX.wn (by omega) hX.wk (by omega) ⟨hX.po.s1, by have := hX.po.b; omega⟩ (x := aX A) (fun w hw => hX.x hw) (u := aV A t) (fun w hw => hX.wa hW ht (by omega)) (by omega)) (fun g4 eg4 => ?_)
      obtain ⟨z1, f1⟩ := eg4
      have hG := f1.g hG
      have hX := hX.fr hW f1 (by decide) (by decide)
      have hF := hF.tr (f1.mo (by decide) (by decide))
      refine J_aload_n dX9_one_53 rfl ?_
      refine J_getR (r := some 92) dX9_one_54 fX9_37 s0 (fun _ => rfl) (g0_5 hG) ?_
      refine J_cVI (ci := 2) (c := 92) (as := []) (st := []) dX9_one_57 lX9_232 okX2_bestOrder vX2_bestOrder s92 (by decide) rfl rfl rfl (Nat.le_of_ble_eq_true rfl) ⟨Nat.le_of_ble_eq_true rfl, Nat.le_of_ble_eq_true rfl⟩ CR.f (c_X2_bestOrder hG) (fun vq5 gq5 eq5 => ?_)
      obtain ⟨rfl, fq5⟩ := eq5
      rw [fq5]
      refine J_cvI (y := nI (bst (sOf A t) 40)) (by rw [bst_cg 40 (fun i hi => (z1 i hi).trans scR_sOf)]) ?_
      exact J_retI dX9_one_60 rfl ⟨rfl, hX, hF.mo (by decide) (by decide)⟩
    · exact (show False by omega).elim
  · exact (show False by omega).elim
theorem c_X9_one_no {h : PH} {p : Nat} {A : AS} {t : Int32} (hG : GR h.2.2) (hX : XI h p A) (hW : WF A) (hno : ¬ (inR t (aP A 0 3 0) ∧ 0 < aP A 0 2 0)) : CtI mX9_one h [pR (some 0), pI t] (fun v h' => v = (if inR t (aP A 0 3 0) then -4 else -2) ∧ XP h h' p A) := by
  have bN := hW.1
  have bk := hW.wk
  have bc := hW.cs
  have bw := hW.wn
  have bt := hW.tn
  have bf := hW.fn
  refine Ct.of (L := [some (pR (some 0)), some (pI t)]) rfl rfl (Nat.le_of_ble_eq_true rfl) rfl ?_
  refine J_aload_n dX9_one_0 rfl ?_
  refine J_iload_n dX9_one_1 rfl ?_
  refine J_cVI (ci := 9) (c := 0) (as := [pI t]) (st := []) dX9_one_2 lX9_130 okX9_hasThing vX9_hasThing s0 (by decide) rfl rfl rfl (Nat.le_of_ble_eq_true rfl) ⟨Nat.le_of_ble_eq_true rfl, Nat.le_of_ble_eq_true rfl⟩ CR.f (c_X9_hasThing hG hX.po hX.cu hX.tn (by omega)) (fun vq1 gq1 eq1 => ?_)
  obtain ⟨rfl, fq1⟩ := eq1
  rw [fq1]
  refine J_if_neB dX9_one_5 (fun d1 => ?_) (fun d1 => ?_)
  · refine J_aload_n dX9_one_11 rfl ?_
    refine J_getR (r := some p) dX9_one_12 fX9_20 s0 (fun _ => rfl) (hX.cu) ?_
    refine J_getI dX9_one_15 fX9_110 hX.po.s (fun _ => rfl) ?_
    refine J_cvI (hX.wn) ?_
    refine J_if_neN dX9_one_18 (by omega) (fun d2 => ?_) (fun d2 => ?_)
    · exact absurd ⟨d1, by omega⟩ hno
    · refine J_bipush (x := (-4)) dX9_one_21 (by decide) ?_
      exact J_retI dX9_one_23 rfl ⟨(if_pos d1).symm, hX, Fr.rf⟩
  · refine J_bipush (x := (-2)) dX9_one_8 (by decide) ?_
    exact J_retI dX9_one_10 rfl ⟨(if_neg d1).symm, hX, Fr.rf⟩
theorem c_X9_one {h : PH} {p : Nat} {A : AS} {t : Int32} (hG : GR h.2.2) (hX : XI h p A) (hW : WF A) : CtI mX9_one h [pR (some 0), pI t] (fun v h' => v = oneA A t ∧ XP h h' p A) := by
  by_cases hok : inR t (aP A 0 3 0) ∧ 0 < aP A 0 2 0
  · obtain ⟨t, ht, rfl⟩ := inR_of hok.1
    have bt := hW.tn
    rw [oneA, if_pos hok.1, if_neg (by omega), cl, nI_clamp (by omega)]
    exact c_X9_one_in hG hX hW ht hok.2
  · have e : oneA A t = if inR t (aP A 0 3 0) then -4 else -2 := by
      unfold oneA
      split
      · rw [if_pos (by omega)]
      · rfl
    rw [e]
    exact c_X9_one_no hG hX hW hok
theorem c_X10_one_in {h : PH} {A : AS} {t : Nat} (hG : GR h.2.2) (hM : MI h A) (hW : WF A) (ht : t < aP A 0 3 0) (hn : 0 < aP A 0 2 0) : CtI mX10_one h [pR (some 158), pI (nI t)] (fun v h' => v = nI (bst (sOf A t) 40) ∧ MP h h' A) := by
  have bN := hW.1
  have bk := hW.wk
  have bc := hW.cs
  have bw := hW.wn
  have bt := hW.tn
  have bf := hW.fn
  have hQ : MFr h h := MFr.rf
  have hM0 := hM
  have hG0 := hG
  refine Ct.of (L := [some (pR (some 158)), some (pI (nI t)), none, none, none, none, none, none]) rfl rfl (Nat.le_of_ble_eq_true rfl) rfl ?_
  refine J_aload_n dX10_one_0 rfl ?_
  refine J_iload_n dX10_one_1 rfl ?_
  refine J_cVI (ci := 10) (c := 158) (as := [pI (nI t)]) (st := []) dX10_one_2 lX10_243 okX10_isThing vX10_isThing s158 (by decide) rfl rfl rfl (Nat.le_of_ble_eq_true rfl) ⟨Nat.le_of_ble_eq_true rfl, Nat.le_of_ble_eq_true rfl⟩ CR.f (c_X10_isThing hG (hM.nm (by decide)) (by omega)) (fun vq1 gq1 eq1 => ?_)
  obtain ⟨rfl, fq1⟩ := eq1
  rw [fq1]
  refine J_cvI (bI_congr (inR_nI_iff (by omega))) ?_
  refine J_if_neB dX10_one_5 (fun c2 => ?_) (fun c2 => ?_)
  · refine J_aload_n dX10_one_11 rfl ?_
    refine J_cVI (ci := 10) (c := 158) (as := []) (st := []) dX10_one_12 lX10_234 okX10_hasWinters vX10_hasWinters s158 (by decide) rfl rfl rfl (Nat.le_of_ble_eq_true rfl) ⟨Nat.le_of_ble_eq_true rfl, Nat.le_of_ble_eq_true rfl⟩ CR.f (c_X10_hasWinters hG (hM.nm (by decide)) (by omega)) (fun vq3 gq3 eq3 => ?_)
    obtain ⟨rfl, fq3⟩ := eq3
    rw [fq3]
    refine J_if_neB dX10_one_15 (fun c4 => ?_) (fun c4 => ?_)
    · refine J_iconstN (n := 0) dX10_one_21 ?_
      refine J_istore_n (L' := [some (pR (some 158)), some (pI (nI t)), some (pI (nI 0)), none, none, none, none, none]) dX10_one_22 (by decide) rfl ?_
      refine J_aload_n dX10_one_23 rfl ?_
      refine J_iload_n dX10_one_24 rfl ?_
      refine J_iconstN (n := 0) dX10_one_25 ?_
      refine J_cVL (ci := 10) (c := 158) (as := [pI (nI t), pI (nI 0)]) (st := []) dX10_one_26 lX10_321 okX10_scoreOf vX10_scoreOf s158 (by decide) rfl rfl rfl (Nat.le_of_ble_eq_true rfl) ⟨Nat.le_of_ble_eq_true rfl, Nat.le_of_ble_eq_true rfl⟩ CR.f (c_X10_scoreOf hG (by omega) (hM.tma hW ht) (hM.nm (by decide)) (by omega) hM.k35 (hM.nm (by decide)) (by omega) (x := fun w => aP A 1 w 0) (fun w hw => ⟨hM.x hw, hW.x hw⟩) (u := aV A t) (fun w hw => hM.wm hW ht (by omega)) (by omega)) (fun vg5 g5 eg5 => ?_)
      obtain ⟨rfl, f1⟩ := eg5
      have hG := f1.g hG
      have hM := hM.mq (.of f1)
      have hQ := hQ.tr (.of f1)
      refine J_lstore_n (L' := [some (pR (some 158)), some (pI (nI t)), some (pI (nI 0)), some (pL (sOf A t 0)), none, none, none, none]) dX10_one_29 (by decide) rfl ?_
      refine J_iconstN (n := 1) dX10_one_30 ?_
      refine J_istore (L' := [some (pR (some 158)), some (pI (nI t)), some (pI (nI 0)), some (pL (sOf A t 0)), none, some (pI (nI 1)), none, none]) dX10_one_31 (by decide) rfl ?_
      refine J_L (L' := [some (pR (some 158)), some (pI (nI t)), some (pI (nI (bst (sOf A t) 0))), some (pL (sOf A t (bst (sOf A t) 0))), none, some (pI (nI (0 + 1))), none, none]) rfl ?_
      refine J_forI (α := Unit) (L := fun i1 aa1 => [some (pR (some 158)), some (pI (nI t)), some (pI (nI (bst (sOf A t) i1))), some (pL (sOf A t (bst (sOf A t) i1))), none, some (pI (nI (i1 + 1))), none, none]) (fun i1 aa1 h1 => MFr h h1) (e := 40) (fun aa1 h1 hI1 => ?_) (fun i1 aa1 h1 hi1 hI1 ih1 => ?_) 0 (()) _ (by omega) (hQ)
      · show J _ _ _ _ _ [some (pR (some 158)), some (pI (nI t)), some (pI (nI (bst (sOf A t) 40))), some (pL (sOf A t (bst (sOf A t) 40))), none, some (pI (nI (40 + 1))), none, none] _ _ h1
        have hG := hI1.g hG0
        have hM := hM0.mq hI1
        have hQ := hI1
        refine J_iload dX10_one_33 rfl ?_
        refine J_bipush (x := nI 40) dX10_one_35 (by decide) ?_
        refine J_icmp_gtN dX10_one_37 (by omega) (by omega) (fun c6 => ?_) (fun c6 => ?_)
        · refine J_iload_n dX10_one_71 rfl ?_
          exact J_retI dX10_one_72 rfl ⟨rfl, hM, hQ.fr⟩
        · exact (show False by omega).elim
      · show J _ _ _ _ _ [some (pR (some 158)), some (pI (nI t)), some (pI (nI (bst (sOf A t) i1))), some (pL (sOf A t (bst (sOf A t) i1))), none, some (pI (nI (i1 + 1))), none, none] _ _ h1
        have hG := hI1.g hG0
        have hM := hM0.mq hI1
        have hQ := hI1
        refine J_iload dX10_one_33 rfl ?_
        refine J_bipush (x := nI 40) dX10_one_35 (by decide) ?_
        refine J_icmp_gtN dX10_one_37 (by omega) (by omega) (fun c7 => ?_) (fun c7 => ?_)
        · exact (show False by omega).elim
        · refine J_aload_n dX10_one_40 rfl ?_
          refine J_iload_n dX10_one_41 rfl ?_
          refine J_iload dX10_one_42 rfl ?_
          refine J_cVL (ci := 10) (c := 158) (as := [pI (nI t), pI (nI (i1 + 1))]) (st := []) dX10_one_44 lX10_321 okX10_scoreOf vX10_scoreOf s158 (by decide) rfl rfl rfl (Nat.le_of_ble_eq_true rfl) ⟨Nat.le_of_ble_eq_true rfl, Nat.le_of_ble_eq_true rfl⟩ CR.f (c_X10_scoreOf hG (by omega) (hM.tma hW ht) (hM.nm (by decide)) (by omega) hM.k35 (hM.nm (by decide)) (by omega) (x := fun w => aP A 1 w 0) (fun w hw => ⟨hM.x hw, hW.x hw⟩) (u := aV A t) (fun w hw => hM.wm hW ht (by omega)) (by omega)) (fun vg8 g8 eg8 => ?_)
          obtain ⟨rfl, f1⟩ := eg8
          have hG := f1.g hG
          have hM := hM.mq (.of f1)
          have hQ := hQ.tr (.of f1)
          refine J_lstore (L' := [some (pR (some 158)), some (pI (nI t)), some (pI (nI (bst (sOf A t) i1))), some (pL (sOf A t (bst (sOf A t) i1))), none, some (pI (nI (i1 + 1))), some (pL (sOf A t (i1 + 1))), none]) dX10_one_47 (by decide) rfl ?_
          refine J_lload dX10_one_49 rfl ?_
          refine J_lload_n dX10_one_51 rfl ?_
          refine J_lcmp dX10_one_52 ?_
          refine J_lif_gt dX10_one_53 (fun c9 => ?_) (fun c9 => ?_)
          · refine J_lload dX10_one_59 rfl ?_
            refine J_lstore_n (L' := [some (pR (some 158)), some (pI (nI t)), some (pI (nI (bst (sOf A t) i1))), some (pL (sOf A t (i1 + 1))), none, some (pI (nI (i1 + 1))), some (pL (sOf A t (i1 + 1))), none]) dX10_one_61 (by decide) rfl ?_
            refine J_iload dX10_one_62 rfl ?_
            refine J_istore_n (L' := [some (pR (some 158)), some (pI (nI t)), some (pI (nI (i1 + 1))), some (pL (sOf A t (i1 + 1))), none, some (pI (nI (i1 + 1))), some (pL (sOf A t (i1 + 1))), none]) dX10_one_64 (by decide) rfl ?_
            refine J_iincN (n := 1) (L' := [some (pR (some 158)), some (pI (nI t)), some (pI (nI (i1 + 1))), some (pL (sOf A t (i1 + 1))), none, some (pI (nI (i1 + 1 + 1))), some (pL (sOf A t (i1 + 1))), none]) dX10_one_65 rfl (by decide) rfl ?_
            refine J_goto dX10_one_68 ?_
            refine J_drop (L' := [some (pR (some 158)), some (pI (nI t)), some (pI (nI (i1 + 1))), some (pL (sOf A t (i1 + 1))), none, some (pI (nI (i1 + 1 + 1))), none, none]) 6 rfl ?_
            have eb : bst (sOf A t) (i1 + 1) = i1 + 1 := if_pos c9
            have K := ih1 () _ hQ
            rw [eb] at K
            exact K
          · refine J_goto dX10_one_56 ?_
            refine J_iincN (n := 1) (L' := [some (pR (some 158)), some (pI (nI t)), some (pI (nI (bst (sOf A t) i1))), some (pL (sOf A t (bst (sOf A t) i1))), none, some (pI (nI (i1 + 1 + 1))), some (pL (sOf A t (i1 + 1))), none]) dX10_one_65 rfl (by decide) rfl ?_
            refine J_goto dX10_one_68 ?_
            refine J_drop (L' := [some (pR (some 158)), some (pI (nI t)), some (pI (nI (bst (sOf A t) i1))), some (pL (sOf A t (bst (sOf A t) i1))), none, some (pI (nI (i1 + 1 + 1))), none, none]) 6 rfl ?_
            have eb : bst (sOf A t) (i1 + 1) = bst (sOf A t) i1 := if_neg c9
            have K := ih1 () _ hQ
            rw [eb] at K
            exact K
    · exact (show False by omega).elim
  · exact (show False by omega).elim
theorem c_X10_one_no {h : PH} {A : AS} {t : Int32} (hG : GR h.2.2) (hM : MI h A) (hW : WF A) (hno : ¬ (inR t (aP A 0 3 0) ∧ 0 < aP A 0 2 0)) : CtI mX10_one h [pR (some 158), pI t] (fun v h' => v = (if inR t (aP A 0 3 0) then -4 else -2) ∧ MP h h' A) := by
  have bN := hW.1
  have bk := hW.wk
  have bc := hW.cs
  have bw := hW.wn
  have bt := hW.tn
  have bf := hW.fn
  refine Ct.of (L := [some (pR (some 158)), some (pI t), none, none, none, none, none, none]) rfl rfl (Nat.le_of_ble_eq_true rfl) rfl ?_
  refine J_aload_n dX10_one_0 rfl ?_
  refine J_iload_n dX10_one_1 rfl ?_
  refine J_cVI (ci := 10) (c := 158) (as := [pI t]) (st := []) dX10_one_2 lX10_243 okX10_isThing vX10_isThing s158 (by decide) rfl rfl rfl (Nat.le_of_ble_eq_true rfl) ⟨Nat.le_of_ble_eq_true rfl, Nat.le_of_ble_eq_true rfl⟩ CR.f (c_X10_isThing hG (hM.nm (by decide)) (by omega)) (fun vq1 gq1 eq1 => ?_)
  obtain ⟨rfl, fq1⟩ := eq1
  rw [fq1]
  refine J_if_neB dX10_one_5 (fun d1 => ?_) (fun d1 => ?_)
  · refine J_aload_n dX10_one_11 rfl ?_
    refine J_cVI (ci := 10) (c := 158) (as := []) (st := []) dX10_one_12 lX10_234 okX10_hasWinters vX10_hasWinters s158 (by decide) rfl rfl rfl (Nat.le_of_ble_eq_true rfl) ⟨Nat.le_of_ble_eq_true rfl, Nat.le_of_ble_eq_true rfl⟩ CR.f (c_X10_hasWinters hG (hM.nm (by decide)) (by omega)) (fun vq3 gq3 eq3 => ?_)
    obtain ⟨rfl, fq3⟩ := eq3
    rw [fq3]
    refine J_if_neB dX10_one_15 (fun d2 => ?_) (fun d2 => ?_)
    · exact absurd ⟨d1, d2⟩ hno
    · refine J_bipush (x := (-4)) dX10_one_18 (by decide) ?_
      exact J_retI dX10_one_20 rfl ⟨(if_pos d1).symm, hM, Fr.rf⟩
  · refine J_bipush (x := (-2)) dX10_one_8 (by decide) ?_
    exact J_retI dX10_one_10 rfl ⟨(if_neg d1).symm, hM, Fr.rf⟩
theorem c_X10_one {h : PH} {A : AS} {t : Int32} (hG : GR h.2.2) (hM : MI h A) (hW : WF A) : CtI mX10_one h [pR (some 158), pI t] (fun v h' => v = oneA A t ∧ MP h h' A) := by
  by_cases hok : inR t (aP A 0 3 0) ∧ 0 < aP A 0 2 0
  · obtain ⟨t, ht, rfl⟩ := inR_of hok.1
    have bt := hW.tn
    rw [oneA, if_pos hok.1, if_neg (by omega), cl, nI_clamp (by omega)]
    exact c_X10_one_in hG hM hW ht hok.2
  · have e : oneA A t = if inR t (aP A 0 3 0) then -4 else -2 := by
      unfold oneA
      split
      · rw [if_pos (by omega)]
      · rfl
    rw [e]
    exact c_X10_one_no hG hM hW hok
