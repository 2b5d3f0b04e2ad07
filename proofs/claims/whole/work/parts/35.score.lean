theorem c_X9_score_in {h : PH} {p : Nat} {A : AS} {t q w : Nat} (hG : GR h.2.2) (hX : XI h p A) (hW : WF A) (ht : t < aP A 0 3 0) (hq : q < 41) (hw : w < aP A 0 2 0) : CtL mX9_score h [pR (some 0), pI (nI t), pI (nI q), pI (nI w)] (fun v h' => v = sIn A t q w ∧ XP h h' p A) := by
  have bN := hW.1
  have bk := hW.wk
  have bc := hW.cs
  have bw := hW.wn
  have bt := hW.tn
  have bf := hW.fn
  have hok : okO (aP A) (nI t) (nI q) (nI w) := ⟨inR_nI ht (by omega), inR_nI hq (by omega), Or.inl (inR_nI hw (by omega))⟩
  have hF : Fr 92 102 h h := Fr.rf
  have b1 := (hW.t ht).2.1
  refine Ct.of (L := [some (pR (some 0)), some (pI (nI t)), some (pI (nI q)), some (pI (nI w)), none]) rfl rfl (Nat.le_of_ble_eq_true rfl) rfl ?_
  refine J_aload_n dX9_score_0 rfl ?_
  refine J_iload_n dX9_score_1 rfl ?_
  refine J_iload_n dX9_score_2 rfl ?_
  refine J_iload_n dX9_score_3 rfl ?_
  refine J_cVI (ci := 9) (c := 0) (as := [pI (nI t), pI (nI q), pI (nI w)]) (st := []) dX9_score_4 lX9_178 okX9_isOutlook vX9_isOutlook s0 (by decide) rfl rfl rfl (Nat.le_of_ble_eq_true rfl) ⟨Nat.le_of_ble_eq_true rfl, Nat.le_of_ble_eq_true rfl⟩ CR.f (c_X9_isOutlook hG hX hW) (fun vq1 gq1 eq1 => ?_)
  obtain ⟨rfl, fq1⟩ := eq1
  rw [fq1]
  refine J_if_neB dX9_score_7 (fun c2 => ?_) (fun c2 => ?_)
  · refine J_aload_n dX9_score_14 rfl ?_
    refine J_getR (r := some p) dX9_score_15 fX9_20 s0 (fun _ => rfl) (hX.cu) ?_
    refine J_getR (r := some (p + 7)) dX9_score_18 fX9_133 hX.po.s (fun _ => rfl) (hX.po.e10 hG) ?_
    refine J_iload_n dX9_score_21 rfl ?_
    refine J_aald4N (r := some (p + 9 + 7 * t)) dX9_score_22 hX.po.s7 (by decide) (by omega) (hX.po.eth hG (by omega)) ?_
    refine J_astore (L' := [some (pR (some 0)), some (pI (nI t)), some (pI (nI q)), some (pI (nI w)), some (pR (some (p + 9 + 7 * t)))]) dX9_score_23 (by decide) rfl ?_
    refine J_aload_n dX9_score_25 rfl ?_
    refine J_getR (r := some 92) dX9_score_26 fX9_37 s0 (fun _ => rfl) (g0_5 hG) ?_
    refine J_aload dX9_score_29 rfl ?_
    refine J_cVV (ci := 2) (c := 92) (as := [pR (some (p + 9 + 7 * t))]) (st := []) dX9_score_31 lX9_191 okX2_valueMoney vX2_valueMoney s92 (by decide) rfl rfl rfl (Nat.le_of_ble_eq_true rfl) ⟨Nat.le_of_ble_eq_true rfl, Nat.le_of_ble_eq_true rfl⟩ CR.f (c_X2_valueMoney hG (hX.th hW ht) (hX.t ht (by decide)) (hX.t ht (by decide)) (hX.t ht (by decide)) (hW.t6 ht (by decide)) (hW.t6 ht (by decide)) (hW.t6 ht (by decide))) (fun g3 eg3 => ?_)
    obtain ⟨zO, zE, f1⟩ := eg3
    have hG := f1.g hG
    have hX := hX.fr hW f1 (by decide) (by decide)
    have hF := hF.tr (f1.mo (by decide) (by decide))
    refine J_aload_n dX9_score_34 rfl ?_
    refine J_aload dX9_score_35 rfl ?_
    refine J_iload_n dX9_score_37 rfl ?_
    refine J_iload_n dX9_score_38 rfl ?_
    refine J_cVL (ci := 9) (c := 0) (as := [pR (some (p + 9 + 7 * t)), pI (nI q), pI (nI w)]) (st := []) dX9_score_39 lX9_187 okX9_valueAt vX9_valueAt s0 (by decide) rfl rfl rfl (Nat.le_of_ble_eq_true rfl) ⟨Nat.le_of_ble_eq_true rfl, Nat.le_of_ble_eq_true rfl⟩ CR.f (c_X9_valueAt_in hG hX hW ht zO zE (by omega) (by omega)) (fun vg4 g4 eg4 => ?_)
    obtain ⟨rfl, f2⟩ := eg4
    have hG := f2.g hG
    have hX := hX.fr hW f2 (by decide) (by decide)
    have hF := hF.tr (f2.mo (by decide) (by decide))
    refine J_aload dX9_score_42 rfl ?_
    refine J_getI dX9_score_44 fX9_146 (hX.th hW ht).s (fun _ => rfl) ?_
    refine J_cvI ((hX.t ht (by decide))) ?_
    refine J_iload_n dX9_score_47 rfl ?_
    refine J_imulN dX9_score_48 ?_
    refine J_i2lN dX9_score_49 (mul_lt31 1000 1000 (by omega) (by omega) (by decide)) ?_
    refine J_aload_n dX9_score_50 rfl ?_
    refine J_iload_n dX9_score_51 rfl ?_
    refine J_cVL (ci := 9) (c := 0) (as := [pI (nI w)]) (st := [pL (lN (aP A 2 t 1 * q)), pL (vW A t 0 (lN (aP A 2 t 2)) (-lN (aP A 2 t 3)) 0 0 (EV 0 (lN (aP A 2 t 4))) (aP A 0 0 0) q w)]) dX9_score_52 lX9_195 okX9_waysIn vX9_waysIn s0 (by decide) rfl rfl rfl (Nat.le_of_ble_eq_true rfl) ⟨Nat.le_of_ble_eq_true rfl, Nat.le_of_ble_eq_true rfl⟩ CR.f (c_X9_waysIn_in hG hX hW (by omega)) (fun vq5 gq5 eq5 => ?_)
    obtain ⟨rfl, fq5⟩ := eq5
    rw [fq5]
    refine J_lmul dX9_score_55 ?_
    refine J_lsub dX9_score_56 ?_
    exact J_retL dX9_score_57 rfl ⟨rfl, hX, hF.mo (by decide) (by decide)⟩
  · exact absurd hok c2
theorem c_X9_score_any {h : PH} {p : Nat} {A : AS} {t q : Nat} (hG : GR h.2.2) (hX : XI h p A) (hW : WF A) (ht : t < aP A 0 3 0) (hq : q < 41) (hn : 0 < aP A 0 2 0) : CtL mX9_score h [pR (some 0), pI (nI t), pI (nI q), pI (-1)] (fun v h' => v = sOf A t q ∧ XP h h' p A) := by
  have bN := hW.1
  have bk := hW.wk
  have bc := hW.cs
  have bw := hW.wn
  have bt := hW.tn
  have bf := hW.fn
  have hok : okO (aP A) (nI t) (nI q) (-1) := ⟨inR_nI ht (by omega), inR_nI hq (by omega), Or.inr ⟨rfl, hn⟩⟩
  have hF : Fr 92 102 h h := Fr.rf
  have b1 := (hW.t ht).2.1
  refine Ct.of (L := [some (pR (some 0)), some (pI (nI t)), some (pI (nI q)), some (pI ((-1))), none]) rfl rfl (Nat.le_of_ble_eq_true rfl) rfl ?_
  refine J_aload_n dX9_score_0 rfl ?_
  refine J_iload_n dX9_score_1 rfl ?_
  refine J_iload_n dX9_score_2 rfl ?_
  refine J_iload_n dX9_score_3 rfl ?_
  refine J_cVI (ci := 9) (c := 0) (as := [pI (nI t), pI (nI q), pI ((-1))]) (st := []) dX9_score_4 lX9_178 okX9_isOutlook vX9_isOutlook s0 (by decide) rfl rfl rfl (Nat.le_of_ble_eq_true rfl) ⟨Nat.le_of_ble_eq_true rfl, Nat.le_of_ble_eq_true rfl⟩ CR.f (c_X9_isOutlook hG hX hW) (fun vq1 gq1 eq1 => ?_)
  obtain ⟨rfl, fq1⟩ := eq1
  rw [fq1]
  refine J_if_neB dX9_score_7 (fun c2 => ?_) (fun c2 => ?_)
  · refine J_aload_n dX9_score_14 rfl ?_
    refine J_getR (r := some p) dX9_score_15 fX9_20 s0 (fun _ => rfl) (hX.cu) ?_
    refine J_getR (r := some (p + 7)) dX9_score_18 fX9_133 hX.po.s (fun _ => rfl) (hX.po.e10 hG) ?_
    refine J_iload_n dX9_score_21 rfl ?_
    refine J_aald4N (r := some (p + 9 + 7 * t)) dX9_score_22 hX.po.s7 (by decide) (by omega) (hX.po.eth hG (by omega)) ?_
    refine J_astore (L' := [some (pR (some 0)), some (pI (nI t)), some (pI (nI q)), some (pI ((-1))), some (pR (some (p + 9 + 7 * t)))]) dX9_score_23 (by decide) rfl ?_
    refine J_aload_n dX9_score_25 rfl ?_
    refine J_getR (r := some 92) dX9_score_26 fX9_37 s0 (fun _ => rfl) (g0_5 hG) ?_
    refine J_aload dX9_score_29 rfl ?_
    refine J_cVV (ci := 2) (c := 92) (as := [pR (some (p + 9 + 7 * t))]) (st := []) dX9_score_31 lX9_191 okX2_valueMoney vX2_valueMoney s92 (by decide) rfl rfl rfl (Nat.le_of_ble_eq_true rfl) ⟨Nat.le_of_ble_eq_true rfl, Nat.le_of_ble_eq_true rfl⟩ CR.f (c_X2_valueMoney hG (hX.th hW ht) (hX.t ht (by decide)) (hX.t ht (by decide)) (hX.t ht (by decide)) (hW.t6 ht (by decide)) (hW.t6 ht (by decide)) (hW.t6 ht (by decide))) (fun g3 eg3 => ?_)
    obtain ⟨zO, zE, f1⟩ := eg3
    have hG := f1.g hG
    have hX := hX.fr hW f1 (by decide) (by decide)
    have hF := hF.tr (f1.mo (by decide) (by decide))
    refine J_aload_n dX9_score_34 rfl ?_
    refine J_aload dX9_score_35 rfl ?_
    refine J_iload_n dX9_score_37 rfl ?_
    refine J_iload_n dX9_score_38 rfl ?_
    refine J_cVL (ci := 9) (c := 0) (as := [pR (some (p + 9 + 7 * t)), pI (nI q), pI ((-1))]) (st := []) dX9_score_39 lX9_187 okX9_valueAt vX9_valueAt s0 (by decide) rfl rfl rfl (Nat.le_of_ble_eq_true rfl) ⟨Nat.le_of_ble_eq_true rfl, Nat.le_of_ble_eq_true rfl⟩ CR.f (c_X9_valueAt_any hG hX hW ht zO zE (by omega)) (fun vg4 g4 eg4 => ?_)
    obtain ⟨rfl, f2⟩ := eg4
    have hG := f2.g hG
    have hX := hX.fr hW f2 (by decide) (by decide)
    have hF := hF.tr (f2.mo (by decide) (by decide))
    refine J_aload dX9_score_42 rfl ?_
    refine J_getI dX9_score_44 fX9_146 (hX.th hW ht).s (fun _ => rfl) ?_
    refine J_cvI ((hX.t ht (by decide))) ?_
    refine J_iload_n dX9_score_47 rfl ?_
    refine J_imulN dX9_score_48 ?_
    refine J_i2lN dX9_score_49 (mul_lt31 1000 1000 (by omega) (by omega) (by decide)) ?_
    refine J_aload_n dX9_score_50 rfl ?_
    refine J_iload_n dX9_score_51 rfl ?_
    refine J_cVL (ci := 9) (c := 0) (as := [pI ((-1))]) (st := [pL (lN (aP A 2 t 1 * q)), pL (vS A t 0 (lN (aP A 2 t 2)) (-lN (aP A 2 t 3)) 0 0 (EV 0 (lN (aP A 2 t 4))) (aP A 0 0 0) q)]) dX9_score_52 lX9_195 okX9_waysIn vX9_waysIn s0 (by decide) rfl rfl rfl (Nat.le_of_ble_eq_true rfl) ⟨Nat.le_of_ble_eq_true rfl, Nat.le_of_ble_eq_true rfl⟩ CR.f (c_X9_waysIn_any hG hX hW) (fun vq5 gq5 eq5 => ?_)
    obtain ⟨rfl, fq5⟩ := eq5
    rw [fq5]
    refine J_lmul dX9_score_55 ?_
    refine J_lsub dX9_score_56 ?_
    exact J_retL dX9_score_57 rfl ⟨score_any hW hn, hX, hF.mo (by decide) (by decide)⟩
  · exact absurd hok c2
theorem c_X9_score_no {h : PH} {p : Nat} {A : AS} {t q w : Int32} (hG : GR h.2.2) (hX : XI h p A) (hW : WF A) (hno : ¬ okO (aP A) t q w) : CtL mX9_score h [pR (some 0), pI t, pI q, pI w] (fun v h' => v = -9000000000000000000 ∧ XP h h' p A) := by
  have bN := hW.1
  have bk := hW.wk
  have bc := hW.cs
  have bw := hW.wn
  have bt := hW.tn
  have bf := hW.fn
  refine Ct.of (L := [some (pR (some 0)), some (pI t), some (pI q), some (pI w), none]) rfl rfl (Nat.le_of_ble_eq_true rfl) rfl ?_
  refine J_aload_n dX9_score_0 rfl ?_
  refine J_iload_n dX9_score_1 rfl ?_
  refine J_iload_n dX9_score_2 rfl ?_
  refine J_iload_n dX9_score_3 rfl ?_
  refine J_cVI (ci := 9) (c := 0) (as := [pI t, pI q, pI w]) (st := []) dX9_score_4 lX9_178 okX9_isOutlook vX9_isOutlook s0 (by decide) rfl rfl rfl (Nat.le_of_ble_eq_true rfl) ⟨Nat.le_of_ble_eq_true rfl, Nat.le_of_ble_eq_true rfl⟩ CR.f (c_X9_isOutlook hG hX hW) (fun vq1 gq1 eq1 => ?_)
  obtain ⟨rfl, fq1⟩ := eq1
  rw [fq1]
  refine J_if_neB dX9_score_7 (fun c2 => ?_) (fun c2 => ?_)
  · exact absurd c2 hno
  · refine J_ldc2 dX9_score_10 kX9_182 ?_
    exact J_retL dX9_score_13 rfl ⟨rfl, hX, Fr.rf⟩
theorem c_X9_score {h : PH} {p : Nat} {A : AS} {t q w : Int32} (hG : GR h.2.2) (hX : XI h p A) (hW : WF A) : CtL mX9_score h [pR (some 0), pI t, pI q, pI w] (fun v h' => v = scoreA A t q w ∧ XP h h' p A) := by
  by_cases hok : okO (aP A) t q w
  · obtain ⟨h1, h2, h3⟩ := id hok
    obtain ⟨t, ht, rfl⟩ := inR_of h1
    obtain ⟨q, hq, rfl⟩ := inR_of h2
    have bt := hW.tn
    have bw := hW.wn
    rcases h3 with h3 | ⟨rfl, hn⟩
    · obtain ⟨w, hw, rfl⟩ := inR_of h3
      rw [scoreA, if_pos hok, if_neg (nI_m1 (by omega)), cl, cl, cl, nI_clamp (by omega), nI_clamp (by omega), nI_clamp (by omega)]
      exact c_X9_score_in hG hX hW ht hq hw
    · rw [scoreA, if_pos hok, if_pos rfl, cl, cl, nI_clamp (by omega), nI_clamp (by omega)]
      exact c_X9_score_any hG hX hW ht hq hn
  · rw [scoreA, if_neg hok]
    exact c_X9_score_no hG hX hW hok
theorem c_X10_score_in {h : PH} {A : AS} {t q w : Nat} (hG : GR h.2.2) (hM : MI h A) (hW : WF A) (ht : t < aP A 0 3 0) (hq : q < 41) (hw : w < aP A 0 2 0) : CtL mX10_score h [pR (some 158), pI (nI t), pI (nI q), pI (nI w)] (fun v h' => v = sIn A t q w ∧ MP h h' A) := by
  have bN := hW.1
  have bk := hW.wk
  have bc := hW.cs
  have bw := hW.wn
  have bt := hW.tn
  have bf := hW.fn
  have hok : okO (aP A) (nI t) (nI q) (nI w) := ⟨inR_nI ht (by omega), inR_nI hq (by omega), Or.inl (inR_nI hw (by omega))⟩
  have hQ : MFr h h := MFr.rf
  refine Ct.of (L := [some (pR (some 158)), some (pI (nI t)), some (pI (nI q)), some (pI (nI w))]) rfl rfl (Nat.le_of_ble_eq_true rfl) rfl ?_
  refine J_aload_n dX10_score_0 rfl ?_
  refine J_iload_n dX10_score_1 rfl ?_
  refine J_cVI (ci := 10) (c := 158) (as := [pI (nI t)]) (st := []) dX10_score_2 lX10_243 okX10_isThing vX10_isThing s158 (by decide) rfl rfl rfl (Nat.le_of_ble_eq_true rfl) ⟨Nat.le_of_ble_eq_true rfl, Nat.le_of_ble_eq_true rfl⟩ CR.f (c_X10_isThing hG (hM.nm (by decide)) (by omega)) (fun vq1 gq1 eq1 => ?_)
  obtain ⟨rfl, fq1⟩ := eq1
  rw [fq1]
  refine J_cvI (bI_congr (inR_nI_iff (by omega))) ?_
  refine J_if_eqB dX10_score_5 (fun c2 => ?_) (fun c2 => ?_)
  · exact (show False by omega).elim
  · refine J_iload_n dX10_score_8 rfl ?_
    refine J_cSI (as := [pI (nI q)]) (st := []) dX10_score_9 lX10_303 okX10_isOrder sX10_isOrder rfl rfl (Nat.le_of_ble_eq_true rfl) ⟨Nat.le_of_ble_eq_true rfl, Nat.le_of_ble_eq_true rfl⟩ CR.f (c_X10_isOrder) (fun vq3 gq3 eq3 => ?_)
    obtain ⟨rfl, fq3⟩ := eq3
    rw [fq3]
    refine J_cvI (bI_congr (inR_nI_iff (by omega))) ?_
    refine J_if_eqB dX10_score_12 (fun c4 => ?_) (fun c4 => ?_)
    · exact (show False by omega).elim
    · refine J_aload_n dX10_score_15 rfl ?_
      refine J_iload_n dX10_score_16 rfl ?_
      refine J_cVI (ci := 10) (c := 158) (as := [pI (nI w)]) (st := []) dX10_score_17 lX10_306 okX10_isAsked vX10_isAsked s158 (by decide) rfl rfl rfl (Nat.le_of_ble_eq_true rfl) ⟨Nat.le_of_ble_eq_true rfl, Nat.le_of_ble_eq_true rfl⟩ CR.f (c_X10_isAsked hG hM hW) (fun vq5 gq5 eq5 => ?_)
      obtain ⟨rfl, fq5⟩ := eq5
      rw [fq5]
      refine J_if_neB dX10_score_20 (fun c6 => ?_) (fun c6 => ?_)
      · refine J_iload_n dX10_score_29 rfl ?_
        refine J_iconst (x := -1) dX10_score_30 (by decide) ?_
        refine J_icmp_ne dX10_score_31 (fun c7 => ?_) (fun c7 => ?_)
        · refine J_aload_n dX10_score_43 rfl ?_
          refine J_iload_n dX10_score_44 rfl ?_
          refine J_iload_n dX10_score_45 rfl ?_
          refine J_iload_n dX10_score_46 rfl ?_
          refine J_cVL (ci := 10) (c := 158) (as := [pI (nI t), pI (nI q), pI (nI w)]) (st := []) dX10_score_47 lX10_317 okX10_scoreIn vX10_scoreIn s158 (by decide) rfl rfl rfl (Nat.le_of_ble_eq_true rfl) ⟨Nat.le_of_ble_eq_true rfl, Nat.le_of_ble_eq_true rfl⟩ CR.f (c_X10_scoreIn (sf := 0) (S := 0) (M := 0) hG (by omega) (hM.tma hW ht) (hM.nm (by decide)) (by omega) hM.k35 (by decide) (fun z => absurd rfl z) (by omega) (hM.wm hW ht (by omega)) (by omega)) (fun vg8 g8 eg8 => ?_)
          obtain ⟨rfl, -, f1⟩ := eg8
          have hG := f1.g hG
          have hM := hM.mq (.of f1)
          have hQ := hQ.tr (.of f1)
          refine J_cvL (y := sIn A t q w) (by rw [vF_eq (by omega) (Nat.zero_le _)]; rfl) ?_
          exact J_retL dX10_score_50 rfl ⟨rfl, hM, hQ.fr⟩
        · exact absurd c7 (nI_m1 (by omega))
      · exact absurd hok.2.2 c6
theorem c_X10_score_any {h : PH} {A : AS} {t q : Nat} (hG : GR h.2.2) (hM : MI h A) (hW : WF A) (ht : t < aP A 0 3 0) (hq : q < 41) (hn : 0 < aP A 0 2 0) : CtL mX10_score h [pR (some 158), pI (nI t), pI (nI q), pI (-1)] (fun v h' => v = sOf A t q ∧ MP h h' A) := by
  have bN := hW.1
  have bk := hW.wk
  have bc := hW.cs
  have bw := hW.wn
  have bt := hW.tn
  have bf := hW.fn
  have hok : okO (aP A) (nI t) (nI q) (-1) := ⟨inR_nI ht (by omega), inR_nI hq (by omega), Or.inr ⟨rfl, hn⟩⟩
  have hQ : MFr h h := MFr.rf
  refine Ct.of (L := [some (pR (some 158)), some (pI (nI t)), some (pI (nI q)), some (pI ((-1)))]) rfl rfl (Nat.le_of_ble_eq_true rfl) rfl ?_
  refine J_aload_n dX10_score_0 rfl ?_
  refine J_iload_n dX10_score_1 rfl ?_
  refine J_cVI (ci := 10) (c := 158) (as := [pI (nI t)]) (st := []) dX10_score_2 lX10_243 okX10_isThing vX10_isThing s158 (by decide) rfl rfl rfl (Nat.le_of_ble_eq_true rfl) ⟨Nat.le_of_ble_eq_true rfl, Nat.le_of_ble_eq_true rfl⟩ CR.f (c_X10_isThing hG (hM.nm (by decide)) (by omega)) (fun vq1 gq1 eq1 => ?_)
  obtain ⟨rfl, fq1⟩ := eq1
  rw [fq1]
  refine J_cvI (bI_congr (inR_nI_iff (by omega))) ?_
  refine J_if_eqB dX10_score_5 (fun c2 => ?_) (fun c2 => ?_)
  · exact (show False by omega).elim
  · refine J_iload_n dX10_score_8 rfl ?_
    refine J_cSI (as := [pI (nI q)]) (st := []) dX10_score_9 lX10_303 okX10_isOrder sX10_isOrder rfl rfl (Nat.le_of_ble_eq_true rfl) ⟨Nat.le_of_ble_eq_true rfl, Nat.le_of_ble_eq_true rfl⟩ CR.f (c_X10_isOrder) (fun vq3 gq3 eq3 => ?_)
    obtain ⟨rfl, fq3⟩ := eq3
    rw [fq3]
    refine J_cvI (bI_congr (inR_nI_iff (by omega))) ?_
    refine J_if_eqB dX10_score_12 (fun c4 => ?_) (fun c4 => ?_)
    · exact (show False by omega).elim
    · refine J_aload_n dX10_score_15 rfl ?_
      refine J_iload_n dX10_score_16 rfl ?_
      refine J_cVI (ci := 10) (c := 158) (as := [pI ((-1))]) (st := []) dX10_score_17 lX10_306 okX10_isAsked vX10_isAsked s158 (by decide) rfl rfl rfl (Nat.le_of_ble_eq_true rfl) ⟨Nat.le_of_ble_eq_true rfl, Nat.le_of_ble_eq_true rfl⟩ CR.f (c_X10_isAsked hG hM hW) (fun vq5 gq5 eq5 => ?_)
      obtain ⟨rfl, fq5⟩ := eq5
      rw [fq5]
      refine J_if_neB dX10_score_20 (fun c6 => ?_) (fun c6 => ?_)
      · refine J_iload_n dX10_score_29 rfl ?_
        refine J_iconst (x := -1) dX10_score_30 (by decide) ?_
        refine J_icmp_ne dX10_score_31 (fun c7 => ?_) (fun c7 => ?_)
        · exact absurd rfl c7
        · refine J_aload_n dX10_score_34 rfl ?_
          refine J_iload_n dX10_score_35 rfl ?_
          refine J_iload_n dX10_score_36 rfl ?_
          refine J_cVL (ci := 10) (c := 158) (as := [pI (nI t), pI (nI q)]) (st := []) dX10_score_37 lX10_321 okX10_scoreOf vX10_scoreOf s158 (by decide) rfl rfl rfl (Nat.le_of_ble_eq_true rfl) ⟨Nat.le_of_ble_eq_true rfl, Nat.le_of_ble_eq_true rfl⟩ CR.f (c_X10_scoreOf hG (by omega) (hM.tma hW ht) (hM.nm (by decide)) (by omega) hM.k35 (hM.nm (by decide)) (by omega) (x := fun w => aP A 1 w 0) (fun w hw => ⟨hM.x hw, hW.x hw⟩) (u := aV A t) (fun w hw => hM.wm hW ht (by omega)) (by omega)) (fun vg8 g8 eg8 => ?_)
          obtain ⟨rfl, f1⟩ := eg8
          have hG := f1.g hG
          have hM := hM.mq (.of f1)
          have hQ := hQ.tr (.of f1)
          refine J_goto dX10_score_40 ?_
          exact J_retL dX10_score_50 rfl ⟨rfl, hM, hQ.fr⟩
      · exact absurd hok.2.2 c6
theorem c_X10_score_no {h : PH} {A : AS} {t q w : Int32} (hG : GR h.2.2) (hM : MI h A) (hW : WF A) (hno : ¬ okO (aP A) t q w) : CtL mX10_score h [pR (some 158), pI t, pI q, pI w] (fun v h' => v = -9000000000000000000 ∧ MP h h' A) := by
  have bN := hW.1
  have bk := hW.wk
  have bc := hW.cs
  have bw := hW.wn
  have bt := hW.tn
  have bf := hW.fn
  refine Ct.of (L := [some (pR (some 158)), some (pI t), some (pI q), some (pI w)]) rfl rfl (Nat.le_of_ble_eq_true rfl) rfl ?_
  refine J_aload_n dX10_score_0 rfl ?_
  refine J_iload_n dX10_score_1 rfl ?_
  refine J_cVI (ci := 10) (c := 158) (as := [pI t]) (st := []) dX10_score_2 lX10_243 okX10_isThing vX10_isThing s158 (by decide) rfl rfl rfl (Nat.le_of_ble_eq_true rfl) ⟨Nat.le_of_ble_eq_true rfl, Nat.le_of_ble_eq_true rfl⟩ CR.f (c_X10_isThing hG (hM.nm (by decide)) (by omega)) (fun vq1 gq1 eq1 => ?_)
  obtain ⟨rfl, fq1⟩ := eq1
  rw [fq1]
  refine J_if_eqB dX10_score_5 (fun d1 => ?_) (fun d1 => ?_)
  · refine J_ldc2 dX10_score_23 kX10_309 ?_
    refine J_goto dX10_score_26 ?_
    exact J_retL dX10_score_50 rfl ⟨rfl, hM, Fr.rf⟩
  · refine J_iload_n dX10_score_8 rfl ?_
    refine J_cSI (as := [pI q]) (st := []) dX10_score_9 lX10_303 okX10_isOrder sX10_isOrder rfl rfl (Nat.le_of_ble_eq_true rfl) ⟨Nat.le_of_ble_eq_true rfl, Nat.le_of_ble_eq_true rfl⟩ CR.f (c_X10_isOrder) (fun vq3 gq3 eq3 => ?_)
    obtain ⟨rfl, fq3⟩ := eq3
    rw [fq3]
    refine J_if_eqB dX10_score_12 (fun d2 => ?_) (fun d2 => ?_)
    · refine J_ldc2 dX10_score_23 kX10_309 ?_
      refine J_goto dX10_score_26 ?_
      exact J_retL dX10_score_50 rfl ⟨rfl, hM, Fr.rf⟩
    · refine J_aload_n dX10_score_15 rfl ?_
      refine J_iload_n dX10_score_16 rfl ?_
      refine J_cVI (ci := 10) (c := 158) (as := [pI w]) (st := []) dX10_score_17 lX10_306 okX10_isAsked vX10_isAsked s158 (by decide) rfl rfl rfl (Nat.le_of_ble_eq_true rfl) ⟨Nat.le_of_ble_eq_true rfl, Nat.le_of_ble_eq_true rfl⟩ CR.f (c_X10_isAsked hG hM hW) (fun vq5 gq5 eq5 => ?_)
      obtain ⟨rfl, fq5⟩ := eq5
      rw [fq5]
      refine J_if_neB dX10_score_20 (fun d3 => ?_) (fun d3 => ?_)
      · exact absurd ⟨d1, d2, d3⟩ hno
      · refine J_ldc2 dX10_score_23 kX10_309 ?_
        refine J_goto dX10_score_26 ?_
        exact J_retL dX10_score_50 rfl ⟨rfl, hM, Fr.rf⟩
theorem c_X10_score {h : PH} {A : AS} {t q w : Int32} (hG : GR h.2.2) (hM : MI h A) (hW : WF A) : CtL mX10_score h [pR (some 158), pI t, pI q, pI w] (fun v h' => v = scoreA A t q w ∧ MP h h' A) := by
  by_cases hok : okO (aP A) t q w
  · obtain ⟨h1, h2, h3⟩ := id hok
    obtain ⟨t, ht, rfl⟩ := inR_of h1
    obtain ⟨q, hq, rfl⟩ := inR_of h2
    have bt := hW.tn
    have bw := hW.wn
    rcases h3 with h3 | ⟨rfl, hn⟩
    · obtain ⟨w, hw, rfl⟩ := inR_of h3
      rw [scoreA, if_pos hok, if_neg (nI_m1 (by omega)), cl, cl, cl, nI_clamp (by omega), nI_clamp (by omega), nI_clamp (by omega)]
      exact c_X10_score_in hG hM hW ht hq hw
    · rw [scoreA, if_pos hok, if_pos rfl, cl, cl, nI_clamp (by omega), nI_clamp (by omega)]
      exact c_X10_score_any hG hM hW ht hq hn
  · rw [scoreA, if_neg hok]
    exact c_X10_score_no hG hM hW hok
theorem c_X9_means_in {h : PH} {p : Nat} {A : AS} {t q w j : Nat} (hG : GR h.2.2) (hX : XI h p A) (hW : WF A) (ht : t < aP A 0 3 0) (hq : q < 41) (hw : w < aP A 0 2 0) (hj : j < 5) : CtL mX9_means h [pR (some 0), pI (nI t), pI (nI q), pI (nI w), pI (nI j)] (fun v h' => v = mIn A t q w j ∧ XP h h' p A) := by
  have bN := hW.1
  have bk := hW.wk
  have bc := hW.cs
  have bw := hW.wn
  have bt := hW.tn
  have bf := hW.fn
  have hok : okO (aP A) (nI t) (nI q) (nI w) := ⟨inR_nI ht (by omega), inR_nI hq (by omega), Or.inl (inR_nI hw (by omega))⟩
  have hF : Fr 92 102 h h := Fr.rf
  refine Ct.of (L := [some (pR (some 0)), some (pI (nI t)), some (pI (nI q)), some (pI (nI w)), some (pI (nI j))]) rfl rfl (Nat.le_of_ble_eq_true rfl) rfl ?_
  refine J_aload_n dX9_means_0 rfl ?_
  refine J_iload_n dX9_means_1 rfl ?_
  refine J_iload_n dX9_means_2 rfl ?_
  refine J_iload_n dX9_means_3 rfl ?_
  refine J_cVI (ci := 9) (c := 0) (as := [pI (nI t), pI (nI q), pI (nI w)]) (st := []) dX9_means_4 lX9_178 okX9_isOutlook vX9_isOutlook s0 (by decide) rfl rfl rfl (Nat.le_of_ble_eq_true rfl) ⟨Nat.le_of_ble_eq_true rfl, Nat.le_of_ble_eq_true rfl⟩ CR.f (c_X9_isOutlook hG hX hW) (fun vq1 gq1 eq1 => ?_)
  obtain ⟨rfl, fq1⟩ := eq1
  rw [fq1]
  refine J_if_eqB dX9_means_7 (fun c2 => ?_) (fun c2 => ?_)
  · exact absurd hok c2
  · refine J_iload dX9_means_10 rfl ?_
    refine J_if_ltN dX9_means_12 (by omega) ?_
    refine J_iload dX9_means_15 rfl ?_
    refine J_iconstN (n := 4) dX9_means_17 ?_
    refine J_icmp_leN dX9_means_18 (by omega) (by omega) (fun c3 => ?_) (fun c3 => ?_)
    · refine J_aload_n dX9_means_25 rfl ?_
      refine J_getR (r := some 92) dX9_means_26 fX9_37 s0 (fun _ => rfl) (g0_5 hG) ?_
      refine J_iload dX9_means_29 rfl ?_
      refine J_cVV (ci := 2) (c := 92) (as := [pI (nI j)]) (st := []) dX9_means_31 lX9_184 okX2_valueCounts vX2_valueCounts s92 (by decide) rfl rfl rfl (Nat.le_of_ble_eq_true rfl) ⟨Nat.le_of_ble_eq_true rfl, Nat.le_of_ble_eq_true rfl⟩ CR.f (c_X2_valueCounts hG hj) (fun g4 eg4 => ?_)
      obtain ⟨zO, zE, f1⟩ := eg4
      have hG := f1.g hG
      have hX := hX.fr hW f1 (by decide) (by decide)
      have hF := hF.tr (f1.mo (by decide) (by decide))
      refine J_aload_n dX9_means_34 rfl ?_
      refine J_aload_n dX9_means_35 rfl ?_
      refine J_getR (r := some p) dX9_means_36 fX9_20 s0 (fun _ => rfl) (hX.cu) ?_
      refine J_getR (r := some (p + 7)) dX9_means_39 fX9_133 hX.po.s (fun _ => rfl) (hX.po.e10 hG) ?_
      refine J_iload_n dX9_means_42 rfl ?_
      refine J_aald4N (r := some (p + 9 + 7 * t)) dX9_means_43 hX.po.s7 (by decide) (by omega) (hX.po.eth hG (by omega)) ?_
      refine J_iload_n dX9_means_44 rfl ?_
      refine J_iload_n dX9_means_45 rfl ?_
      refine J_cVL (ci := 9) (c := 0) (as := [pR (some (p + 9 + 7 * t)), pI (nI q), pI (nI w)]) (st := []) dX9_means_46 lX9_187 okX9_valueAt vX9_valueAt s0 (by decide) rfl rfl rfl (Nat.le_of_ble_eq_true rfl) ⟨Nat.le_of_ble_eq_true rfl, Nat.le_of_ble_eq_true rfl⟩ CR.f (c_X9_valueAt_in hG hX hW ht zO zE (by omega) (by omega)) (fun vg5 g5 eg5 => ?_)
      obtain ⟨rfl, f2⟩ := eg5
      have hG := f2.g hG
      have hX := hX.fr hW f2 (by decide) (by decide)
      have hF := hF.tr (f2.mo (by decide) (by decide))
      exact J_retL dX9_means_49 rfl ⟨rfl, hX, hF.mo (by decide) (by decide)⟩
    · exact (show False by omega).elim
theorem c_X9_means_any {h : PH} {p : Nat} {A : AS} {t q j : Nat} (hG : GR h.2.2) (hX : XI h p A) (hW : WF A) (ht : t < aP A 0 3 0) (hq : q < 41) (hn : 0 < aP A 0 2 0) (hj : j < 5) : CtL mX9_means h [pR (some 0), pI (nI t), pI (nI q), pI (-1), pI (nI j)] (fun v h' => v = mOf A t q j ∧ XP h h' p A) := by
  have bN := hW.1
  have bk := hW.wk
  have bc := hW.cs
  have bw := hW.wn
  have bt := hW.tn
  have bf := hW.fn
  have hok : okO (aP A) (nI t) (nI q) (-1) := ⟨inR_nI ht (by omega), inR_nI hq (by omega), Or.inr ⟨rfl, hn⟩⟩
  have hF : Fr 92 102 h h := Fr.rf
  refine Ct.of (L := [some (pR (some 0)), some (pI (nI t)), some (pI (nI q)), some (pI ((-1))), some (pI (nI j))]) rfl rfl (Nat.le_of_ble_eq_true rfl) rfl ?_
  refine J_aload_n dX9_means_0 rfl ?_
  refine J_iload_n dX9_means_1 rfl ?_
  refine J_iload_n dX9_means_2 rfl ?_
  refine J_iload_n dX9_means_3 rfl ?_
  refine J_cVI (ci := 9) (c := 0) (as := [pI (nI t), pI (nI q), pI ((-1))]) (st := []) dX9_means_4 lX9_178 okX9_isOutlook vX9_isOutlook s0 (by decide) rfl rfl rfl (Nat.le_of_ble_eq_true rfl) ⟨Nat.le_of_ble_eq_true rfl, Nat.le_of_ble_eq_true rfl⟩ CR.f (c_X9_isOutlook hG hX hW) (fun vq1 gq1 eq1 => ?_)
  obtain ⟨rfl, fq1⟩ := eq1
  rw [fq1]
  refine J_if_eqB dX9_means_7 (fun c2 => ?_) (fun c2 => ?_)
  · exact absurd hok c2
  · refine J_iload dX9_means_10 rfl ?_
    refine J_if_ltN dX9_means_12 (by omega) ?_
    refine J_iload dX9_means_15 rfl ?_
    refine J_iconstN (n := 4) dX9_means_17 ?_
    refine J_icmp_leN dX9_means_18 (by omega) (by omega) (fun c3 => ?_) (fun c3 => ?_)
    · refine J_aload_n dX9_means_25 rfl ?_
      refine J_getR (r := some 92) dX9_means_26 fX9_37 s0 (fun _ => rfl) (g0_5 hG) ?_
      refine J_iload dX9_means_29 rfl ?_
      refine J_cVV (ci := 2) (c := 92) (as := [pI (nI j)]) (st := []) dX9_means_31 lX9_184 okX2_valueCounts vX2_valueCounts s92 (by decide) rfl rfl rfl (Nat.le_of_ble_eq_true rfl) ⟨Nat.le_of_ble_eq_true rfl, Nat.le_of_ble_eq_true rfl⟩ CR.f (c_X2_valueCounts hG hj) (fun g4 eg4 => ?_)
      obtain ⟨zO, zE, f1⟩ := eg4
      have hG := f1.g hG
      have hX := hX.fr hW f1 (by decide) (by decide)
      have hF := hF.tr (f1.mo (by decide) (by decide))
      refine J_aload_n dX9_means_34 rfl ?_
      refine J_aload_n dX9_means_35 rfl ?_
      refine J_getR (r := some p) dX9_means_36 fX9_20 s0 (fun _ => rfl) (hX.cu) ?_
      refine J_getR (r := some (p + 7)) dX9_means_39 fX9_133 hX.po.s (fun _ => rfl) (hX.po.e10 hG) ?_
      refine J_iload_n dX9_means_42 rfl ?_
      refine J_aald4N (r := some (p + 9 + 7 * t)) dX9_means_43 hX.po.s7 (by decide) (by omega) (hX.po.eth hG (by omega)) ?_
      refine J_iload_n dX9_means_44 rfl ?_
      refine J_iload_n dX9_means_45 rfl ?_
      refine J_cVL (ci := 9) (c := 0) (as := [pR (some (p + 9 + 7 * t)), pI (nI q), pI ((-1))]) (st := []) dX9_means_46 lX9_187 okX9_valueAt vX9_valueAt s0 (by decide) rfl rfl rfl (Nat.le_of_ble_eq_true rfl) ⟨Nat.le_of_ble_eq_true rfl, Nat.le_of_ble_eq_true rfl⟩ CR.f (c_X9_valueAt_any hG hX hW ht zO zE (by omega)) (fun vg5 g5 eg5 => ?_)
      obtain ⟨rfl, f2⟩ := eg5
      have hG := f2.g hG
      have hX := hX.fr hW f2 (by decide) (by decide)
      have hF := hF.tr (f2.mo (by decide) (by decide))
      exact J_retL dX9_means_49 rfl ⟨rfl, hX, hF.mo (by decide) (by decide)⟩
    · exact (show False by omega).elim
theorem c_X9_means_no {h : PH} {p : Nat} {A : AS} {t q w j : Int32} (hG : GR h.2.2) (hX : XI h p A) (hW : WF A) (hno : ¬ (okO (aP A) t q w ∧ inR j 5)) : CtL mX9_means h [pR (some 0), pI t, pI q, pI w, pI j] (fun v h' => v = -9000000000000000000 ∧ XP h h' p A) := by
  have bN := hW.1
  have bk := hW.wk
  have bc := hW.cs
  have bw := hW.wn
  have bt := hW.tn
  have bf := hW.fn
  refine Ct.of (L := [some (pR (some 0)), some (pI t), some (pI q), some (pI w), some (pI j)]) rfl rfl (Nat.le_of_ble_eq_true rfl) rfl ?_
  refine J_aload_n dX9_means_0 rfl ?_
  refine J_iload_n dX9_means_1 rfl ?_
  refine J_iload_n dX9_means_2 rfl ?_
  refine J_iload_n dX9_means_3 rfl ?_
  refine J_cVI (ci := 9) (c := 0) (as := [pI t, pI q, pI w]) (st := []) dX9_means_4 lX9_178 okX9_isOutlook vX9_isOutlook s0 (by decide) rfl rfl rfl (Nat.le_of_ble_eq_true rfl) ⟨Nat.le_of_ble_eq_true rfl, Nat.le_of_ble_eq_true rfl⟩ CR.f (c_X9_isOutlook hG hX hW) (fun vq1 gq1 eq1 => ?_)
  obtain ⟨rfl, fq1⟩ := eq1
  rw [fq1]
  refine J_if_eqB dX9_means_7 (fun d1 => ?_) (fun d1 => ?_)
  · refine J_ldc2 dX9_means_21 kX9_182 ?_
    exact J_retL dX9_means_24 rfl ⟨rfl, hX, Fr.rf⟩
  · refine J_iload dX9_means_10 rfl ?_
    refine J_if_lt dX9_means_12 (fun d2 => ?_) (fun d2 => ?_)
    · refine J_ldc2 dX9_means_21 kX9_182 ?_
      exact J_retL dX9_means_24 rfl ⟨rfl, hX, Fr.rf⟩
    · refine J_iload dX9_means_15 rfl ?_
      refine J_iconstN (n := 4) dX9_means_17 ?_
      refine J_icmp_le dX9_means_18 (fun d3 => ?_) (fun d3 => ?_)
      · exact absurd ⟨d1, inR_c (n := 4) (by decide) d2 d3⟩ hno
      · refine J_ldc2 dX9_means_21 kX9_182 ?_
        exact J_retL dX9_means_24 rfl ⟨rfl, hX, Fr.rf⟩
theorem c_X9_means {h : PH} {p : Nat} {A : AS} {t q w j : Int32} (hG : GR h.2.2) (hX : XI h p A) (hW : WF A) : CtL mX9_means h [pR (some 0), pI t, pI q, pI w, pI j] (fun v h' => v = meansA A t q w j ∧ XP h h' p A) := by
  by_cases hok : okO (aP A) t q w ∧ inR j 5
  · obtain ⟨⟨h1, h2, h3⟩, h4⟩ := id hok
    obtain ⟨t, ht, rfl⟩ := inR_of h1
    obtain ⟨q, hq, rfl⟩ := inR_of h2
    obtain ⟨j, hj, rfl⟩ := inR_of h4
    have bt := hW.tn
    have bw := hW.wn
    rcases h3 with h3 | ⟨rfl, hn⟩
    · obtain ⟨w, hw, rfl⟩ := inR_of h3
      rw [meansA, if_pos hok, if_neg (nI_m1 (by omega)), cl, cl, cl, cl, nI_clamp (by omega), nI_clamp (by omega), nI_clamp (by omega), nI_clamp (by omega)]
      exact c_X9_means_in hG hX hW ht hq hw hj
    · rw [meansA, if_pos hok, if_pos rfl, cl, cl, cl, nI_clamp (by omega), nI_clamp (by omega), nI_clamp (by omega)]
      exact c_X9_means_any hG hX hW ht hq hn hj
  · rw [meansA, if_neg hok]
    exact c_X9_means_no hG hX hW hok
theorem c_X10_means_in {h : PH} {A : AS} {t q w j : Nat} (hG : GR h.2.2) (hM : MI h A) (hW : WF A) (ht : t < aP A 0 3 0) (hq : q < 41) (hw : w < aP A 0 2 0) (hj : j < 5) : CtL mX10_means h [pR (some 158), pI (nI t), pI (nI q), pI (nI w), pI (nI j)] (fun v h' => v = mIn A t q w j ∧ MP h h' A) := by
  have bN := hW.1
  have bk := hW.wk
  have bc := hW.cs
  have bw := hW.wn
  have bt := hW.tn
  have bf := hW.fn
  have hok : okO (aP A) (nI t) (nI q) (nI w) := ⟨inR_nI ht (by omega), inR_nI hq (by omega), Or.inl (inR_nI hw (by omega))⟩
  have hQ : MFr h h := MFr.rf
  refine Ct.of (L := [some (pR (some 158)), some (pI (nI t)), some (pI (nI q)), some (pI (nI w)), some (pI (nI j)), none, none, none]) rfl rfl (Nat.le_of_ble_eq_true rfl) rfl ?_
  refine J_aload_n dX10_means_0 rfl ?_
  refine J_iload_n dX10_means_1 rfl ?_
  refine J_cVI (ci := 10) (c := 158) (as := [pI (nI t)]) (st := []) dX10_means_2 lX10_243 okX10_isThing vX10_isThing s158 (by decide) rfl rfl rfl (Nat.le_of_ble_eq_true rfl) ⟨Nat.le_of_ble_eq_true rfl, Nat.le_of_ble_eq_true rfl⟩ CR.f (c_X10_isThing hG (hM.nm (by decide)) (by omega)) (fun vq1 gq1 eq1 => ?_)
  obtain ⟨rfl, fq1⟩ := eq1
  rw [fq1]
  refine J_cvI (bI_congr (inR_nI_iff (by omega))) ?_
  refine J_if_eqB dX10_means_5 (fun c2 => ?_) (fun c2 => ?_)
  · exact (show False by omega).elim
  · refine J_iload_n dX10_means_8 rfl ?_
    refine J_cSI (as := [pI (nI q)]) (st := []) dX10_means_9 lX10_303 okX10_isOrder sX10_isOrder rfl rfl (Nat.le_of_ble_eq_true rfl) ⟨Nat.le_of_ble_eq_true rfl, Nat.le_of_ble_eq_true rfl⟩ CR.f (c_X10_isOrder) (fun vq3 gq3 eq3 => ?_)
    obtain ⟨rfl, fq3⟩ := eq3
    rw [fq3]
    refine J_cvI (bI_congr (inR_nI_iff (by omega))) ?_
    refine J_if_eqB dX10_means_12 (fun c4 => ?_) (fun c4 => ?_)
    · exact (show False by omega).elim
    · refine J_aload_n dX10_means_15 rfl ?_
      refine J_iload_n dX10_means_16 rfl ?_
      refine J_cVI (ci := 10) (c := 158) (as := [pI (nI w)]) (st := []) dX10_means_17 lX10_306 okX10_isAsked vX10_isAsked s158 (by decide) rfl rfl rfl (Nat.le_of_ble_eq_true rfl) ⟨Nat.le_of_ble_eq_true rfl, Nat.le_of_ble_eq_true rfl⟩ CR.f (c_X10_isAsked hG hM hW) (fun vq5 gq5 eq5 => ?_)
      obtain ⟨rfl, fq5⟩ := eq5
      rw [fq5]
      refine J_if_eqB dX10_means_20 (fun c6 => ?_) (fun c6 => ?_)
      · exact absurd hok.2.2 c6
      · refine J_iload dX10_means_23 rfl ?_
        refine J_iconstN (n := 0) dX10_means_25 ?_
        refine J_iconstN (n := 4) dX10_means_26 ?_
        refine J_cSI (as := [pI (nI j), pI (nI 0), pI (nI 4)]) (st := []) dX10_means_27 lX10_172 okX10_in sX10_in rfl rfl (Nat.le_of_ble_eq_true rfl) ⟨Nat.le_of_ble_eq_true rfl, Nat.le_of_ble_eq_true rfl⟩ CR.f (c_X10_in) (fun vq7 gq7 eq7 => ?_)
        obtain ⟨rfl, fq7⟩ := eq7
        rw [fq7]
        refine J_cvI (bI_congr (inN (by omega) (by omega) (by omega))) ?_
        refine J_if_neB dX10_means_30 (fun c8 => ?_) (fun c8 => ?_)
        · refine J_iload_n dX10_means_37 rfl ?_
          refine J_iconst (x := -1) dX10_means_38 (by decide) ?_
          refine J_icmp_eq dX10_means_39 (fun c9 => ?_) (fun c9 => ?_)
          · exact absurd c9 (nI_m1 (by omega))
          · refine J_aload_n dX10_means_42 rfl ?_
            refine J_iload_n dX10_means_43 rfl ?_
            refine J_iload_n dX10_means_44 rfl ?_
            refine J_iconstN (n := 0) dX10_means_45 ?_
            refine J_iload_n dX10_means_46 rfl ?_
            refine J_cVV (ci := 10) (c := 158) (as := [pI (nI t), pI (nI w), pI (nI 0), pI (nI q)]) (st := []) dX10_means_47 lX10_311 okX10_goThrough vX10_goThrough s158 (by decide) rfl rfl rfl (Nat.le_of_ble_eq_true rfl) ⟨Nat.le_of_ble_eq_true rfl, Nat.le_of_ble_eq_true rfl⟩ CR.f (c_X10_goThrough (sf := 0) (S := 0) (M := 0) hG (by omega) (by omega) (hM.tma hW ht).tm (hM.wm hW ht (by omega)) (hM.nm (by decide)) (by omega) (Nat.zero_le _) (by omega) hM.k35 (by decide) (fun z => absurd rfl z)) (fun g1 eg1 => ?_)
            obtain ⟨-, z2, z3, -, f1⟩ := eg1
            have hG := f1.g hG
            have hM := hM.mq (.of f1)
            have hQ := hQ.tr (.of f1)
            refine J_aload_n dX10_means_50 rfl ?_
            refine J_getR (r := some 175) dX10_means_51 fX10_65 s158 (fun _ => rfl) (g158_34 hG) ?_
            refine J_iload dX10_means_54 rfl ?_
            refine J_laldN dX10_means_56 s175 (by decide) (by omega) ?_
            refine J_cvL ((go_mean (S := 0) (M := 0) (by omega) z2 z3 hj)) ?_
            exact J_retL dX10_means_57 rfl ⟨rfl, hM, hQ.fr⟩
        · exact (show False by omega).elim
theorem c_X10_means_any {h : PH} {A : AS} {t q j : Nat} (hG : GR h.2.2) (hM : MI h A) (hW : WF A) (ht : t < aP A 0 3 0) (hq : q < 41) (hn : 0 < aP A 0 2 0) (hj : j < 5) : CtL mX10_means h [pR (some 158), pI (nI t), pI (nI q), pI (-1), pI (nI j)] (fun v h' => v = mOf A t q j ∧ MP h h' A) := by
  have bN := hW.1
  have bk := hW.wk
  have bc := hW.cs
  have bw := hW.wn
  have bt := hW.tn
  have bf := hW.fn
  have hok : okO (aP A) (nI t) (nI q) (-1) := ⟨inR_nI ht (by omega), inR_nI hq (by omega), Or.inr ⟨rfl, hn⟩⟩
  refine Ct.of (L := [some (pR (some 158)), some (pI (nI t)), some (pI (nI q)), some (pI ((-1))), some (pI (nI j)), none, none, none]) rfl rfl (Nat.le_of_ble_eq_true rfl) rfl ?_
  refine J_aload_n dX10_means_0 rfl ?_
  refine J_iload_n dX10_means_1 rfl ?_
  refine J_cVI (ci := 10) (c := 158) (as := [pI (nI t)]) (st := []) dX10_means_2 lX10_243 okX10_isThing vX10_isThing s158 (by decide) rfl rfl rfl (Nat.le_of_ble_eq_true rfl) ⟨Nat.le_of_ble_eq_true rfl, Nat.le_of_ble_eq_true rfl⟩ CR.f (c_X10_isThing hG (hM.nm (by decide)) (by omega)) (fun vq1 gq1 eq1 => ?_)
  obtain ⟨rfl, fq1⟩ := eq1
  rw [fq1]
  refine J_cvI (bI_congr (inR_nI_iff (by omega))) ?_
  refine J_if_eqB dX10_means_5 (fun c2 => ?_) (fun c2 => ?_)
  · exact (show False by omega).elim
  · refine J_iload_n dX10_means_8 rfl ?_
    refine J_cSI (as := [pI (nI q)]) (st := []) dX10_means_9 lX10_303 okX10_isOrder sX10_isOrder rfl rfl (Nat.le_of_ble_eq_true rfl) ⟨Nat.le_of_ble_eq_true rfl, Nat.le_of_ble_eq_true rfl⟩ CR.f (c_X10_isOrder) (fun vq3 gq3 eq3 => ?_)
    obtain ⟨rfl, fq3⟩ := eq3
    rw [fq3]
    refine J_cvI (bI_congr (inR_nI_iff (by omega))) ?_
    refine J_if_eqB dX10_means_12 (fun c4 => ?_) (fun c4 => ?_)
    · exact (show False by omega).elim
    · refine J_aload_n dX10_means_15 rfl ?_
      refine J_iload_n dX10_means_16 rfl ?_
      refine J_cVI (ci := 10) (c := 158) (as := [pI ((-1))]) (st := []) dX10_means_17 lX10_306 okX10_isAsked vX10_isAsked s158 (by decide) rfl rfl rfl (Nat.le_of_ble_eq_true rfl) ⟨Nat.le_of_ble_eq_true rfl, Nat.le_of_ble_eq_true rfl⟩ CR.f (c_X10_isAsked hG hM hW) (fun vq5 gq5 eq5 => ?_)
      obtain ⟨rfl, fq5⟩ := eq5
      rw [fq5]
      refine J_if_eqB dX10_means_20 (fun c6 => ?_) (fun c6 => ?_)
      · exact absurd hok.2.2 c6
      · refine J_iload dX10_means_23 rfl ?_
        refine J_iconstN (n := 0) dX10_means_25 ?_
        refine J_iconstN (n := 4) dX10_means_26 ?_
        refine J_cSI (as := [pI (nI j), pI (nI 0), pI (nI 4)]) (st := []) dX10_means_27 lX10_172 okX10_in sX10_in rfl rfl (Nat.le_of_ble_eq_true rfl) ⟨Nat.le_of_ble_eq_true rfl, Nat.le_of_ble_eq_true rfl⟩ CR.f (c_X10_in) (fun vq7 gq7 eq7 => ?_)
        obtain ⟨rfl, fq7⟩ := eq7
        rw [fq7]
        refine J_cvI (bI_congr (inN (by omega) (by omega) (by omega))) ?_
        refine J_if_neB dX10_means_30 (fun c8 => ?_) (fun c8 => ?_)
        · refine J_iload_n dX10_means_37 rfl ?_
          refine J_iconst (x := -1) dX10_means_38 (by decide) ?_
          refine J_icmp_eq dX10_means_39 (fun c9 => ?_) (fun c9 => ?_)
          · refine J_lconst (x := 0) dX10_means_58 rfl ?_
            refine J_lstore (L' := [some (pR (some 158)), some (pI (nI t)), some (pI (nI q)), some (pI ((-1))), some (pI (nI j)), some (pL 0), none, none]) dX10_means_59 (by decide) rfl ?_
            refine J_iconstN (n := 0) dX10_means_61 ?_
            refine J_istore (L' := [some (pR (some 158)), some (pI (nI t)), some (pI (nI q)), some (pI ((-1))), some (pI (nI j)), some (pL 0), none, some (pI (nI 0))]) dX10_means_62 (by decide) rfl ?_
            refine J_L (L' := [some (pR (some 158)), some (pI (nI t)), some (pI (nI q)), some (pI ((-1))), some (pI (nI j)), some (pL (sL64 (fun w => lN (aP A 1 w 0) * mIn A t q w j) 0)), none, some (pI (nI 0))]) rfl ?_
            refine J_forI (α := Unit) (L := fun i1 aa1 => [some (pR (some 158)), some (pI (nI t)), some (pI (nI q)), some (pI ((-1))), some (pI (nI j)), some (pL (sL64 (fun w => lN (aP A 1 w 0) * mIn A t q w j) i1)), none, some (pI (nI i1))]) (fun i1 aa1 h1 => MFr h h1) (e := aP A 0 2 0) (fun aa1 h1 hI1 => ?_) (fun i1 aa1 h1 hi1 hI1 ih1 => ?_) 0 (()) _ (by omega) (MFr.rf)
            · show J _ _ _ _ _ [some (pR (some 158)), some (pI (nI t)), some (pI (nI q)), some (pI ((-1))), some (pI (nI j)), some (pL (sL64 (fun w => lN (aP A 1 w 0) * mIn A t q w j) (aP A 0 2 0))), none, some (pI (nI (aP A 0 2 0)))] _ _ h1
              have hG := hI1.g hG
              have hM := hM.mq hI1
              have hQ := hI1
              refine J_iload dX10_means_64 rfl ?_
              refine J_aload_n dX10_means_66 rfl ?_
              refine J_getR (r := some 160) dX10_means_67 fX10_17 s158 (fun _ => rfl) (g158_12 hG) ?_
              refine J_iconstN (n := 2) dX10_means_70 ?_
              refine J_ialdN dX10_means_71 s160 (by decide) (by omega) ?_
              refine J_cvI ((hM.nm (k := 2) (by decide))) ?_
              refine J_icmp_geN dX10_means_72 (by omega) (by omega) (fun c10 => ?_) (fun c10 => ?_)
              · refine J_lload dX10_means_110 rfl ?_
                exact J_retL dX10_means_112 rfl ⟨rfl, hM, hQ.fr⟩
              · exact (show False by omega).elim
            · show J _ _ _ _ _ [some (pR (some 158)), some (pI (nI t)), some (pI (nI q)), some (pI ((-1))), some (pI (nI j)), some (pL (sL64 (fun w => lN (aP A 1 w 0) * mIn A t q w j) i1)), none, some (pI (nI i1))] _ _ h1
              have hG := hI1.g hG
              have hM := hM.mq hI1
              have hQ := hI1
              have bx := hW.x hi1
              refine J_iload dX10_means_64 rfl ?_
              refine J_aload_n dX10_means_66 rfl ?_
              refine J_getR (r := some 160) dX10_means_67 fX10_17 s158 (fun _ => rfl) (g158_12 hG) ?_
              refine J_iconstN (n := 2) dX10_means_70 ?_
              refine J_ialdN dX10_means_71 s160 (by decide) (by omega) ?_
              refine J_cvI ((hM.nm (k := 2) (by decide))) ?_
              refine J_icmp_geN dX10_means_72 (by omega) (by omega) (fun c11 => ?_) (fun c11 => ?_)
              · exact (show False by omega).elim
              · refine J_aload_n dX10_means_75 rfl ?_
                refine J_iload_n dX10_means_76 rfl ?_
                refine J_iload dX10_means_77 rfl ?_
                refine J_iconstN (n := 0) dX10_means_79 ?_
                refine J_iload_n dX10_means_80 rfl ?_
                refine J_cVV (ci := 10) (c := 158) (as := [pI (nI t), pI (nI i1), pI (nI 0), pI (nI q)]) (st := []) dX10_means_81 lX10_311 okX10_goThrough vX10_goThrough s158 (by decide) rfl rfl rfl (Nat.le_of_ble_eq_true rfl) ⟨Nat.le_of_ble_eq_true rfl, Nat.le_of_ble_eq_true rfl⟩ CR.f (c_X10_goThrough (sf := 0) (S := 0) (M := 0) hG (by omega) (by omega) (hM.tma hW ht).tm (hM.wm hW ht (by omega)) (hM.nm (by decide)) (by omega) (Nat.zero_le _) (by omega) hM.k35 (by decide) (fun z => absurd rfl z)) (fun g1 eg1 => ?_)
                obtain ⟨-, z2, z3, -, f1⟩ := eg1
                have hG := f1.g hG
                have hM := hM.mq (.of f1)
                have hQ := hQ.tr (.of f1)
                refine J_lload dX10_means_84 rfl ?_
                refine J_aload_n dX10_means_86 rfl ?_
                refine J_iload dX10_means_87 rfl ?_
                refine J_cVI (ci := 10) (c := 158) (as := [pI (nI i1)]) (st := [pL (sL64 (fun w => lN (aP A 1 w 0) * mIn A t q w j) i1)]) dX10_means_89 lX10_240 okX10_weight vX10_weight s158 (by decide) rfl rfl rfl (Nat.le_of_ble_eq_true rfl) ⟨Nat.le_of_ble_eq_true rfl, Nat.le_of_ble_eq_true rfl⟩ CR.f (c_X10_weight hG (by omega) (hM.x hi1)) (fun vq12 gq12 eq12 => ?_)
                obtain ⟨rfl, fq12⟩ := eq12
                rw [fq12]
                refine J_i2lN dX10_means_92 (by omega) ?_
                refine J_aload_n dX10_means_93 rfl ?_
                refine J_getR (r := some 175) dX10_means_94 fX10_65 s158 (fun _ => rfl) (g158_34 hG) ?_
                refine J_iload dX10_means_97 rfl ?_
                refine J_laldN dX10_means_99 s175 (by decide) (by omega) ?_
                refine J_cvL ((go_mean (S := 0) (M := 0) (by omega) z2 z3 hj)) ?_
                refine J_lmul dX10_means_100 ?_
                refine J_ladd dX10_means_101 ?_
                refine J_lstore (L' := [some (pR (some 158)), some (pI (nI t)), some (pI (nI q)), some (pI ((-1))), some (pI (nI j)), some (pL ((sL64 (fun w => lN (aP A 1 w 0) * mIn A t q w j) i1) + ((lN (aP A 1 i1 0)) * (mIn A t q i1 j)))), none, some (pI (nI i1))]) dX10_means_102 (by decide) rfl ?_
                refine J_iincN (n := 1) (L' := [some (pR (some 158)), some (pI (nI t)), some (pI (nI q)), some (pI ((-1))), some (pI (nI j)), some (pL ((sL64 (fun w => lN (aP A 1 w 0) * mIn A t q w j) i1) + ((lN (aP A 1 i1 0)) * (mIn A t q i1 j)))), none, some (pI (nI (i1 + 1)))]) dX10_means_104 rfl (by decide) rfl ?_
                refine J_goto dX10_means_107 ?_
                refine J_L (L' := [some (pR (some 158)), some (pI (nI t)), some (pI (nI q)), some (pI ((-1))), some (pI (nI j)), some (pL (sL64 (fun w => lN (aP A 1 w 0) * mIn A t q w j) (i1 + 1))), none, some (pI (nI (i1 + 1)))]) rfl ?_
                exact ih1 () _ hQ
          · exact absurd rfl c9
        · exact (show False by omega).elim
theorem c_X10_means_no {h : PH} {A : AS} {t q w j : Int32} (hG : GR h.2.2) (hM : MI h A) (hW : WF A) (hno : ¬ (okO (aP A) t q w ∧ inR j 5)) : CtL mX10_means h [pR (some 158), pI t, pI q, pI w, pI j] (fun v h' => v = -9000000000000000000 ∧ MP h h' A) := by
  have bN := hW.1
  have bk := hW.wk
  have bc := hW.cs
  have bw := hW.wn
  have bt := hW.tn
  have bf := hW.fn
  refine Ct.of (L := [some (pR (some 158)), some (pI t), some (pI q), some (pI w), some (pI j), none, none, none]) rfl rfl (Nat.le_of_ble_eq_true rfl) rfl ?_
  refine J_aload_n dX10_means_0 rfl ?_
  refine J_iload_n dX10_means_1 rfl ?_
  refine J_cVI (ci := 10) (c := 158) (as := [pI t]) (st := []) dX10_means_2 lX10_243 okX10_isThing vX10_isThing s158 (by decide) rfl rfl rfl (Nat.le_of_ble_eq_true rfl) ⟨Nat.le_of_ble_eq_true rfl, Nat.le_of_ble_eq_true rfl⟩ CR.f (c_X10_isThing hG (hM.nm (by decide)) (by omega)) (fun vq1 gq1 eq1 => ?_)
  obtain ⟨rfl, fq1⟩ := eq1
  rw [fq1]
  refine J_if_eqB dX10_means_5 (fun d1 => ?_) (fun d1 => ?_)
  · refine J_ldc2 dX10_means_33 kX10_309 ?_
    exact J_retL dX10_means_36 rfl ⟨rfl, hM, Fr.rf⟩
  · refine J_iload_n dX10_means_8 rfl ?_
    refine J_cSI (as := [pI q]) (st := []) dX10_means_9 lX10_303 okX10_isOrder sX10_isOrder rfl rfl (Nat.le_of_ble_eq_true rfl) ⟨Nat.le_of_ble_eq_true rfl, Nat.le_of_ble_eq_true rfl⟩ CR.f (c_X10_isOrder) (fun vq3 gq3 eq3 => ?_)
    obtain ⟨rfl, fq3⟩ := eq3
    rw [fq3]
    refine J_if_eqB dX10_means_12 (fun d2 => ?_) (fun d2 => ?_)
    · refine J_ldc2 dX10_means_33 kX10_309 ?_
      exact J_retL dX10_means_36 rfl ⟨rfl, hM, Fr.rf⟩
    · refine J_aload_n dX10_means_15 rfl ?_
      refine J_iload_n dX10_means_16 rfl ?_
      refine J_cVI (ci := 10) (c := 158) (as := [pI w]) (st := []) dX10_means_17 lX10_306 okX10_isAsked vX10_isAsked s158 (by decide) rfl rfl rfl (Nat.le_of_ble_eq_true rfl) ⟨Nat.le_of_ble_eq_true rfl, Nat.le_of_ble_eq_true rfl⟩ CR.f (c_X10_isAsked hG hM hW) (fun vq5 gq5 eq5 => ?_)
      obtain ⟨rfl, fq5⟩ := eq5
      rw [fq5]
      refine J_if_eqB dX10_means_20 (fun d3 => ?_) (fun d3 => ?_)
      · refine J_ldc2 dX10_means_33 kX10_309 ?_
        exact J_retL dX10_means_36 rfl ⟨rfl, hM, Fr.rf⟩
      · refine J_iload dX10_means_23 rfl ?_
        refine J_iconstN (n := 0) dX10_means_25 ?_
        refine J_iconstN (n := 4) dX10_means_26 ?_
        refine J_cSI (as := [pI j, pI (nI 0), pI (nI 4)]) (st := []) dX10_means_27 lX10_172 okX10_in sX10_in rfl rfl (Nat.le_of_ble_eq_true rfl) ⟨Nat.le_of_ble_eq_true rfl, Nat.le_of_ble_eq_true rfl⟩ CR.f (c_X10_in) (fun vq7 gq7 eq7 => ?_)
        obtain ⟨rfl, fq7⟩ := eq7
        rw [fq7]
        refine J_cvI (bI_congr (in_iffN (b := 4) (by decide))) ?_
        refine J_if_neB dX10_means_30 (fun d4 => ?_) (fun d4 => ?_)
        · exact absurd ⟨⟨d1, d2, d3⟩, d4⟩ hno
        · refine J_ldc2 dX10_means_33 kX10_309 ?_
          exact J_retL dX10_means_36 rfl ⟨rfl, hM, Fr.rf⟩
theorem c_X10_means {h : PH} {A : AS} {t q w j : Int32} (hG : GR h.2.2) (hM : MI h A) (hW : WF A) : CtL mX10_means h [pR (some 158), pI t, pI q, pI w, pI j] (fun v h' => v = meansA A t q w j ∧ MP h h' A) := by
  by_cases hok : okO (aP A) t q w ∧ inR j 5
  · obtain ⟨⟨h1, h2, h3⟩, h4⟩ := id hok
    obtain ⟨t, ht, rfl⟩ := inR_of h1
    obtain ⟨q, hq, rfl⟩ := inR_of h2
    obtain ⟨j, hj, rfl⟩ := inR_of h4
    have bt := hW.tn
    have bw := hW.wn
    rcases h3 with h3 | ⟨rfl, hn⟩
    · obtain ⟨w, hw, rfl⟩ := inR_of h3
      rw [meansA, if_pos hok, if_neg (nI_m1 (by omega)), cl, cl, cl, cl, nI_clamp (by omega), nI_clamp (by omega), nI_clamp (by omega), nI_clamp (by omega)]
      exact c_X10_means_in hG hM hW ht hq hw hj
    · rw [meansA, if_pos hok, if_pos rfl, cl, cl, cl, nI_clamp (by omega), nI_clamp (by omega), nI_clamp (by omega)]
      exact c_X10_means_any hG hM hW ht hq hn hj
  · rw [meansA, if_neg hok]
    exact c_X10_means_no hG hM hW hok
