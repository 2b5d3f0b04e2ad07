theorem c_X9_sure_in {h : PH} {p : Nat} {A : AS} {t n : Nat} (hG : GR h.2.2) (hX : XI h p A) (hW : WF A) (ht : t < aP A 0 3 0) (h1 : 1 ≤ n) (h9 : n ≤ 999) (hn : 0 < aP A 0 2 0) : CtI mX9_sure h [pR (some 0), pI (nI t), pI (nI n)] (fun v h' => v = frst (sureC A t n) 41 0 ∧ XP h h' p A) := by
  have bN := hW.1
  have bk := hW.wk
  have bc := hW.cs
  have bw := hW.wn
  have bt := hW.tn
  have bf := hW.fn
  have hF : Fr 92 102 h h := Fr.rf
  have p5 := pow5 hW.wk.2
  have p0 : 0 < 10 ^ aP A 0 0 0 := Nat.pow_pos (by decide)
  have p6 : 10 ^ (aP A 0 0 0 + 1) = 10 ^ aP A 0 0 0 * 10 := Nat.pow_succ ..
  refine Ct.of (L := [some (pR (some 0)), some (pI (nI t)), some (pI (nI n)), none, none, none]) rfl rfl (Nat.le_of_ble_eq_true rfl) rfl ?_
  refine J_aload_n dX9_sure_0 rfl ?_
  refine J_iload_n dX9_sure_1 rfl ?_
  refine J_cVI (ci := 9) (c := 0) (as := [pI (nI t)]) (st := []) dX9_sure_2 lX9_130 okX9_hasThing vX9_hasThing s0 (by decide) rfl rfl rfl (Nat.le_of_ble_eq_true rfl) ⟨Nat.le_of_ble_eq_true rfl, Nat.le_of_ble_eq_true rfl⟩ CR.f (c_X9_hasThing hG hX.po hX.cu hX.tn (by omega)) (fun vq1 gq1 eq1 => ?_)
  obtain ⟨rfl, fq1⟩ := eq1
  rw [fq1]
  refine J_cvI (bI_congr (inR_nI_iff (by omega))) ?_
  refine J_if_eqB dX9_sure_5 (fun c2 => ?_) (fun c2 => ?_)
  · exact (show False by omega).elim
  · refine J_iload_n dX9_sure_8 rfl ?_
    refine J_iconstN (n := 1) dX9_sure_9 ?_
    refine J_icmp_ltN dX9_sure_10 (by omega) (by omega) (fun c3 => ?_) (fun c3 => ?_)
    · exact (show False by omega).elim
    · refine J_iload_n dX9_sure_13 rfl ?_
      refine J_sipush (x := nI 999) dX9_sure_14 (by decide) ?_
      refine J_icmp_leN dX9_sure_17 (by omega) (by omega) (fun c4 => ?_) (fun c4 => ?_)
      · refine J_aload_n dX9_sure_23 rfl ?_
        refine J_getR (r := some p) dX9_sure_24 fX9_20 s0 (fun _ => rfl) (hX.cu) ?_
        refine J_getI dX9_sure_27 fX9_110 hX.po.s (fun _ => rfl) ?_
        refine J_cvI (hX.wn) ?_
        refine J_if_neN dX9_sure_30 (by omega) (fun c5 => ?_) (fun c5 => ?_)
        · refine J_aload_n dX9_sure_36 rfl ?_
          refine J_getR (r := some 92) dX9_sure_37 fX9_37 s0 (fun _ => rfl) (g0_5 hG) ?_
          refine J_cVV (ci := 2) (c := 92) (as := []) (st := []) dX9_sure_40 lX9_201 okX2_valueSafety vX2_valueSafety s92 (by decide) rfl rfl rfl (Nat.le_of_ble_eq_true rfl) ⟨Nat.le_of_ble_eq_true rfl, Nat.le_of_ble_eq_true rfl⟩ CR.f (c_X2_valueSafety hG) (fun gs es => ?_)
          have zO : OL gs 1 (h.2.1 92 6) (h.2.1 92 7) (h.2.1 92 8) (h.2.1 92 9) := by rw [es]; exact ⟨rI_s, rfl, rfl, rfl, rfl, by decide⟩
          have zE : gs.2.1 92 10 = h.2.1 92 10 := by rw [es]; rfl
          have f1 : Fr 92 92 h gs := by rw [es]; exact Fr.sI (by decide) (by decide)
          have hG := f1.g hG
          have hX := hX.fr hW f1 (by decide) (by decide)
          have hF := hF.tr (f1.mo (by decide) (by decide))
          refine J_aload_n dX9_sure_43 rfl ?_
          refine J_getR (r := some 92) dX9_sure_44 fX9_37 s0 (fun _ => rfl) (g0_5 hG) ?_
          refine J_aload_n dX9_sure_47 rfl ?_
          refine J_getR (r := some p) dX9_sure_48 fX9_20 s0 (fun _ => rfl) (hX.cu) ?_
          refine J_aload_n dX9_sure_51 rfl ?_
          refine J_getR (r := some p) dX9_sure_52 fX9_20 s0 (fun _ => rfl) (hX.cu) ?_
          refine J_getR (r := some (p + 7)) dX9_sure_55 fX9_133 hX.po.s (fun _ => rfl) (hX.po.e10 hG) ?_
          refine J_iload_n dX9_sure_58 rfl ?_
          refine J_aald4N (r := some (p + 9 + 7 * t)) dX9_sure_59 hX.po.s7 (by decide) (by omega) (hX.po.eth hG (by omega)) ?_
          refine J_aload_n dX9_sure_60 rfl ?_
          refine J_getR (r := some p) dX9_sure_61 fX9_20 s0 (fun _ => rfl) (hX.cu) ?_
          refine J_getR (r := some (p + 1)) dX9_sure_64 fX9_127 hX.po.s (fun _ => rfl) (hX.po.e8 hG) ?_
          refine J_aload_n dX9_sure_67 rfl ?_
          refine J_getR (r := some p) dX9_sure_68 fX9_20 s0 (fun _ => rfl) (hX.cu) ?_
          refine J_getI dX9_sure_71 fX9_104 hX.po.s (fun _ => rfl) ?_
          refine J_cvI (hX.wk) ?_
          refine J_bipush (x := nI 40) dX9_sure_74 (by decide) ?_
          refine J_cVV (ci := 2) (c := 92) (as := [pR (some p), pR (some (p + 9 + 7 * t)), pR (some (p + 1)), pI (nI (aP A 0 0 0)), pI (nI 40)]) (st := []) dX9_sure_76 lX9_211 okX2_passAny vX2_passAny s92 (by decide) rfl rfl rfl (Nat.le_of_ble_eq_true rfl) ⟨Nat.le_of_ble_eq_true rfl, Nat.le_of_ble_eq_true rfl⟩ CR.f (c_X2_passAny hG hX.po (hX.th hW ht) ⟨hX.po.s1, by have := hX.po.b; omega⟩ hX.wn (by omega) (x := aX A) (fun w hw => hX.x hw) (hX.ta hW ht).th (u := aV A t) (fun w hw => hX.wa hW ht (by omega)) zO zE (by omega) (by omega)) (fun g6 eg6 => ?_)
          obtain ⟨z1, f2⟩ := eg6
          have hG := f2.1.g hG
          have hX := hX.fr hW f2.1 (by decide) (by decide)
          have hF := hF.tr (f2.1.mo (by decide) (by decide))
          refine J_aload_n dX9_sure_79 rfl ?_
          refine J_iconst (x := -1) dX9_sure_80 (by decide) ?_
          refine J_cVL (ci := 9) (c := 0) (as := [pI ((-1))]) (st := []) dX9_sure_81 lX9_195 okX9_waysIn vX9_waysIn s0 (by decide) rfl rfl rfl (Nat.le_of_ble_eq_true rfl) ⟨Nat.le_of_ble_eq_true rfl, Nat.le_of_ble_eq_true rfl⟩ CR.f (c_X9_waysIn_any hG hX hW) (fun vq7 gq7 eq7 => ?_)
          obtain ⟨rfl, fq7⟩ := eq7
          rw [fq7]
          refine J_cvL (y := lN (10 ^ (aP A 0 0 0 + 1))) (tenL_pow _) ?_
          refine J_lstore_n (L' := [some (pR (some 0)), some (pI (nI t)), some (pI (nI n)), some (pL (lN (10 ^ (aP A 0 0 0 + 1)))), none, none]) dX9_sure_84 (by decide) rfl ?_
          refine J_iconstN (n := 0) dX9_sure_85 ?_
          refine J_istore (L' := [some (pR (some 0)), some (pI (nI t)), some (pI (nI n)), some (pL (lN (10 ^ (aP A 0 0 0 + 1)))), none, some (pI (nI 0))]) dX9_sure_86 (by decide) rfl ?_
          refine J_L (L' := [some (pR (some 0)), some (pI (nI t)), some (pI (nI n)), some (pL (lN (10 ^ (aP A 0 0 0 + 1)))), none, some (pI (nI 0))]) rfl ?_
          refine J_forI (α := Unit) (L := fun i1 aa1 => [some (pR (some 0)), some (pI (nI t)), some (pI (nI n)), some (pL (lN (10 ^ (aP A 0 0 0 + 1)))), none, some (pI (nI i1))]) (fun i1 aa1 h1 => g6 = h1 ∧ frst (sureC A t n) (41 - i1) i1 = frst (sureC A t n) 41 0) (e := 41) (fun aa1 h1 hI1 => ?_) (fun i1 aa1 h1 hi1 hI1 ih1 => ?_) 0 (()) _ (by omega) (⟨rfl, rfl⟩)
          · show J _ _ _ _ _ [some (pR (some 0)), some (pI (nI t)), some (pI (nI n)), some (pL (lN (10 ^ (aP A 0 0 0 + 1)))), none, some (pI (nI 41))] _ _ h1
            obtain ⟨hI2, hI3⟩ := hI1
            subst hI2
            refine J_iload dX9_sure_88 rfl ?_
            refine J_bipush (x := nI 40) dX9_sure_90 (by decide) ?_
            refine J_icmp_gtN dX9_sure_92 (by decide) (by decide) (fun c0 => ?_) (fun c0 => absurd c0 (by decide))
            refine J_iconst (x := -1) dX9_sure_124 (by decide) ?_
            exact J_retI dX9_sure_125 rfl ⟨hI3, hX, hF.mo (by decide) (by decide)⟩
          · show J _ _ _ _ _ [some (pR (some 0)), some (pI (nI t)), some (pI (nI n)), some (pL (lN (10 ^ (aP A 0 0 0 + 1)))), none, some (pI (nI i1))] _ _ h1
            obtain ⟨hI2, hI3⟩ := hI1
            subst hI2
            have e41 : 41 - i1 = (40 - i1) + 1 := by omega
            have e42 : 41 - (i1 + 1) = 40 - i1 := by omega
            have zi := (z1 i1 (by omega)).trans (safe_any (A := A) (t := t) (by omega))
            refine J_iload dX9_sure_88 rfl ?_
            refine J_bipush (x := nI 40) dX9_sure_90 (by decide) ?_
            refine J_icmp_gtN dX9_sure_92 (by omega) (by omega) (fun c8 => ?_) (fun c8 => ?_)
            · exact (show False by omega).elim
            · refine J_lload_n dX9_sure_95 rfl ?_
              refine J_aload_n dX9_sure_96 rfl ?_
              refine J_getR (r := some 92) dX9_sure_97 fX9_37 s0 (fun _ => rfl) (g0_5 hG) ?_
              refine J_getR (r := some 94) dX9_sure_100 fX9_215 s92 (fun _ => rfl) (g92_1 hG) ?_
              refine J_iload dX9_sure_103 rfl ?_
              refine J_laldN dX9_sure_105 s94 (by decide) (by omega) ?_
              refine J_cvL (zi) ?_
              refine J_lsub dX9_sure_106 ?_
              refine J_iload_n dX9_sure_107 rfl ?_
              refine J_i2lN dX9_sure_108 (by omega) ?_
              refine J_lmul dX9_sure_109 ?_
              refine J_lload_n dX9_sure_110 rfl ?_
              refine J_lcmp dX9_sure_111 ?_
              refine J_lif_gt dX9_sure_112 (fun c9 => ?_) (fun c9 => ?_)
              · refine J_iincN (n := 1) (L' := [some (pR (some 0)), some (pI (nI t)), some (pI (nI n)), some (pL (lN (10 ^ (aP A 0 0 0 + 1)))), none, some (pI (nI (i1 + 1)))]) dX9_sure_118 rfl (by decide) rfl ?_
                refine J_goto dX9_sure_121 ?_
                exact ih1 () _ ⟨rfl, by rw [← hI3, e41, e42]; exact (if_neg (fun z => absurd (of_decide_eq_true z) (Int64.not_le.mpr c9))).symm⟩
              · refine J_iload dX9_sure_115 rfl ?_
                exact J_retI dX9_sure_117 rfl ⟨by rw [← hI3, e41]; exact (if_pos (decide_eq_true (Int64.not_lt.mp c9))).symm, hX, hF.mo (by decide) (by decide)⟩
        · exact (show False by omega).elim
      · exact (show False by omega).elim
theorem c_X9_sure_no {h : PH} {p : Nat} {A : AS} {t n : Int32} (hG : GR h.2.2) (hX : XI h p A) (hW : WF A) (hno : ¬ (okS (aP A) t n ∧ 0 < aP A 0 2 0)) : CtI mX9_sure h [pR (some 0), pI t, pI n] (fun v h' => v = (if okS (aP A) t n then -4 else -2) ∧ XP h h' p A) := by
  have bN := hW.1
  have bk := hW.wk
  have bc := hW.cs
  have bw := hW.wn
  have bt := hW.tn
  have bf := hW.fn
  refine Ct.of (L := [some (pR (some 0)), some (pI t), some (pI n), none, none, none]) rfl rfl (Nat.le_of_ble_eq_true rfl) rfl ?_
  refine J_aload_n dX9_sure_0 rfl ?_
  refine J_iload_n dX9_sure_1 rfl ?_
  refine J_cVI (ci := 9) (c := 0) (as := [pI t]) (st := []) dX9_sure_2 lX9_130 okX9_hasThing vX9_hasThing s0 (by decide) rfl rfl rfl (Nat.le_of_ble_eq_true rfl) ⟨Nat.le_of_ble_eq_true rfl, Nat.le_of_ble_eq_true rfl⟩ CR.f (c_X9_hasThing hG hX.po hX.cu hX.tn (by omega)) (fun vq1 gq1 eq1 => ?_)
  obtain ⟨rfl, fq1⟩ := eq1
  rw [fq1]
  refine J_if_eqB dX9_sure_5 (fun d1 => ?_) (fun d1 => ?_)
  · refine J_bipush (x := (-2)) dX9_sure_20 (by decide) ?_
    exact J_retI dX9_sure_22 rfl ⟨(if_neg (fun q => by simp only [okS, inR, Int32.lt_iff_toInt_lt, Int32.le_iff_toInt_le, tn0, tn1, tn2, tn3, tn4, tn5, tn6, tn10, tn19, tn20, tn40, tn48, tn80, tn89, tn90, tn99, tn999, tn9999, zT] at q d1 <;> omega)).symm, hX, Fr.rf⟩
  · refine J_iload_n dX9_sure_8 rfl ?_
    refine J_iconstN (n := 1) dX9_sure_9 ?_
    refine J_icmp_lt dX9_sure_10 (fun d2 => ?_) (fun d2 => ?_)
    · refine J_bipush (x := (-2)) dX9_sure_20 (by decide) ?_
      exact J_retI dX9_sure_22 rfl ⟨(if_neg (fun q => by simp only [okS, inR, Int32.lt_iff_toInt_lt, Int32.le_iff_toInt_le, tn0, tn1, tn2, tn3, tn4, tn5, tn6, tn10, tn19, tn20, tn40, tn48, tn80, tn89, tn90, tn99, tn999, tn9999, zT] at q d1 d2 <;> omega)).symm, hX, Fr.rf⟩
    · refine J_iload_n dX9_sure_13 rfl ?_
      refine J_sipush (x := nI 999) dX9_sure_14 (by decide) ?_
      refine J_icmp_le dX9_sure_17 (fun d3 => ?_) (fun d3 => ?_)
      · have ok : okS (aP A) t n := ⟨d1, by simp only [Int32.lt_iff_toInt_lt, Int32.le_iff_toInt_le, tn1, tn999] at d2 d3; omega⟩
        refine J_aload_n dX9_sure_23 rfl ?_
        refine J_getR (r := some p) dX9_sure_24 fX9_20 s0 (fun _ => rfl) (hX.cu) ?_
        refine J_getI dX9_sure_27 fX9_110 hX.po.s (fun _ => rfl) ?_
        refine J_cvI (hX.wn) ?_
        refine J_if_neN dX9_sure_30 (by omega) (fun d4 => ?_) (fun d4 => ?_)
        · exact absurd ⟨ok, by omega⟩ hno
        · refine J_bipush (x := (-4)) dX9_sure_33 (by decide) ?_
          exact J_retI dX9_sure_35 rfl ⟨(if_pos ok).symm, hX, Fr.rf⟩
      · refine J_bipush (x := (-2)) dX9_sure_20 (by decide) ?_
        exact J_retI dX9_sure_22 rfl ⟨(if_neg (fun q => by simp only [okS, inR, Int32.lt_iff_toInt_lt, Int32.le_iff_toInt_le, tn0, tn1, tn2, tn3, tn4, tn5, tn6, tn10, tn19, tn20, tn40, tn48, tn80, tn89, tn90, tn99, tn999, tn9999, zT] at q d1 d2 d3 <;> omega)).symm, hX, Fr.rf⟩
theorem c_X9_sure {h : PH} {p : Nat} {A : AS} {t n : Int32} (hG : GR h.2.2) (hX : XI h p A) (hW : WF A) : CtI mX9_sure h [pR (some 0), pI t, pI n] (fun v h' => v = sureA A t n ∧ XP h h' p A) := by
  by_cases hok : okS (aP A) t n ∧ 0 < aP A 0 2 0
  · obtain ⟨⟨h1, h2⟩, h3⟩ := id hok
    obtain ⟨t, ht, rfl⟩ := inR_of h1
    obtain ⟨n, hn, rfl⟩ := inR_of (n := 1000) (t := n) ⟨by omega, by omega⟩
    have bt := hW.tn
    rw [nI_toInt (by omega)] at h2
    rw [sureA, if_pos hok.1, if_neg (by omega), cl, cl, nI_clamp (by omega), nI_clamp (by omega)]
    exact c_X9_sure_in hG hX hW ht (by omega) (by omega) h3
  · have e : sureA A t n = if okS (aP A) t n then -4 else -2 := by
      unfold sureA
      by_cases z : okS (aP A) t n
      · rw [if_pos z, if_pos z, if_pos (Nat.eq_zero_of_not_pos (fun y => hok ⟨z, y⟩))]
      · rw [if_neg z, if_neg z]
    rw [e]
    exact c_X9_sure_no hG hX hW hok
theorem c_X10_sure_in {h : PH} {A : AS} {t n : Nat} (hG : GR h.2.2) (hM : MI h A) (hW : WF A) (ht : t < aP A 0 3 0) (h1 : 1 ≤ n) (h9 : n ≤ 999) (hn : 0 < aP A 0 2 0) : CtI mX10_sure h [pR (some 158), pI (nI t), pI (nI n)] (fun v h' => v = frst (sureC A t n) 41 0 ∧ MP h h' A) := by
  have bN := hW.1
  have bk := hW.wk
  have bc := hW.cs
  have bw := hW.wn
  have bt := hW.tn
  have bf := hW.fn
  have p5 := pow5 hW.wk.2
  have p0 : 0 < 10 ^ aP A 0 0 0 := Nat.pow_pos (by decide)
  have p6 : 10 ^ (aP A 0 0 0 + 1) = 10 ^ aP A 0 0 0 * 10 := Nat.pow_succ ..
  have hM0 := hM
  have hG0 := hG
  refine Ct.of (L := [some (pR (some 158)), some (pI (nI t)), some (pI (nI n)), none, none, none]) rfl rfl (Nat.le_of_ble_eq_true rfl) rfl ?_
  refine J_aload_n dX10_sure_0 rfl ?_
  refine J_iload_n dX10_sure_1 rfl ?_
  refine J_cVI (ci := 10) (c := 158) (as := [pI (nI t)]) (st := []) dX10_sure_2 lX10_243 okX10_isThing vX10_isThing s158 (by decide) rfl rfl rfl (Nat.le_of_ble_eq_true rfl) ⟨Nat.le_of_ble_eq_true rfl, Nat.le_of_ble_eq_true rfl⟩ CR.f (c_X10_isThing hG (hM.nm (by decide)) (by omega)) (fun vq1 gq1 eq1 => ?_)
  obtain ⟨rfl, fq1⟩ := eq1
  rw [fq1]
  refine J_cvI (bI_congr (inR_nI_iff (by omega))) ?_
  refine J_if_eqB dX10_sure_5 (fun c2 => ?_) (fun c2 => ?_)
  · exact (show False by omega).elim
  · refine J_iload_n dX10_sure_8 rfl ?_
    refine J_iconstN (n := 1) dX10_sure_9 ?_
    refine J_sipush (x := nI 999) dX10_sure_10 (by decide) ?_
    refine J_cSI (as := [pI (nI n), pI (nI 1), pI (nI 999)]) (st := []) dX10_sure_13 lX10_172 okX10_in sX10_in rfl rfl (Nat.le_of_ble_eq_true rfl) ⟨Nat.le_of_ble_eq_true rfl, Nat.le_of_ble_eq_true rfl⟩ CR.f (c_X10_in) (fun vq3 gq3 eq3 => ?_)
    obtain ⟨rfl, fq3⟩ := eq3
    rw [fq3]
    refine J_cvI (bI_congr (inN (by omega) (by omega) (by omega))) ?_
    refine J_if_neB dX10_sure_16 (fun c4 => ?_) (fun c4 => ?_)
    · refine J_aload_n dX10_sure_22 rfl ?_
      refine J_cVI (ci := 10) (c := 158) (as := []) (st := []) dX10_sure_23 lX10_234 okX10_hasWinters vX10_hasWinters s158 (by decide) rfl rfl rfl (Nat.le_of_ble_eq_true rfl) ⟨Nat.le_of_ble_eq_true rfl, Nat.le_of_ble_eq_true rfl⟩ CR.f (c_X10_hasWinters hG (hM.nm (by decide)) (by omega)) (fun vq5 gq5 eq5 => ?_)
      obtain ⟨rfl, fq5⟩ := eq5
      rw [fq5]
      refine J_if_neB dX10_sure_26 (fun c6 => ?_) (fun c6 => ?_)
      · refine J_ldc2 dX10_sure_32 kX10_281 ?_
        refine J_aload_n dX10_sure_35 rfl ?_
        refine J_aload_n dX10_sure_36 rfl ?_
        refine J_getR (r := some 160) dX10_sure_37 fX10_17 s158 (fun _ => rfl) (g158_12 hG) ?_
        refine J_iconstN (n := 0) dX10_sure_40 ?_
        refine J_ialdN dX10_sure_41 s160 (by decide) (by omega) ?_
        refine J_cvI ((hM.nm (k := 0) (by decide))) ?_
        refine J_cVL (ci := 10) (c := 158) (as := [pI (nI (aP A 0 0 0))]) (st := [pL 10]) dX10_sure_42 lX10_290 okX10_tens vX10_tens s158 (by decide) rfl rfl rfl (Nat.le_of_ble_eq_true rfl) ⟨Nat.le_of_ble_eq_true rfl, Nat.le_of_ble_eq_true rfl⟩ CR.f (c_X10_tens (by omega)) (fun vq7 gq7 eq7 => ?_)
        obtain ⟨rfl, fq7⟩ := eq7
        rw [fq7]
        refine J_cvL (y := lN (10 ^ aP A 0 0 0)) (tenL_pow _) ?_
        refine J_lmul dX10_sure_45 ?_
        refine J_cvL (y := lN (10 ^ (aP A 0 0 0 + 1))) (by rw [p6, Nat.mul_comm, ← lN_mul]; rfl) ?_
        refine J_lstore_n (L' := [some (pR (some 158)), some (pI (nI t)), some (pI (nI n)), some (pL (lN (10 ^ (aP A 0 0 0 + 1)))), none, none]) dX10_sure_46 (by decide) rfl ?_
        refine J_iconstN (n := 0) dX10_sure_47 ?_
        refine J_istore (L' := [some (pR (some 158)), some (pI (nI t)), some (pI (nI n)), some (pL (lN (10 ^ (aP A 0 0 0 + 1)))), none, some (pI (nI 0))]) dX10_sure_48 (by decide) rfl ?_
        refine J_L (L' := [some (pR (some 158)), some (pI (nI t)), some (pI (nI n)), some (pL (lN (10 ^ (aP A 0 0 0 + 1)))), none, some (pI (nI 0))]) rfl ?_
        refine J_forI (α := Unit) (L := fun i1 aa1 => [some (pR (some 158)), some (pI (nI t)), some (pI (nI n)), some (pL (lN (10 ^ (aP A 0 0 0 + 1)))), none, some (pI (nI i1))]) (fun i1 aa1 h1 => MFr h h1 ∧ frst (sureC A t n) (41 - i1) i1 = frst (sureC A t n) 41 0) (e := 41) (fun aa1 h1 hI1 => ?_) (fun i1 aa1 h1 hi1 hI1 ih1 => ?_) 0 (()) _ (by omega) (⟨MFr.rf, rfl⟩)
        · show J _ _ _ _ _ [some (pR (some 158)), some (pI (nI t)), some (pI (nI n)), some (pL (lN (10 ^ (aP A 0 0 0 + 1)))), none, some (pI (nI 41))] _ _ h1
          obtain ⟨hI2, hI3⟩ := hI1
          have hG := hI2.g hG0
          have hM := hM0.mq hI2
          have hQ := hI2
          refine J_iload dX10_sure_50 rfl ?_
          refine J_bipush (x := nI 40) dX10_sure_52 (by decide) ?_
          refine J_icmp_gtN dX10_sure_54 (by decide) (by decide) (fun c0 => ?_) (fun c0 => absurd c0 (by decide))
          refine J_iconst (x := -1) dX10_sure_83 (by decide) ?_
          exact J_retI dX10_sure_84 rfl ⟨hI3, hM, hQ.fr⟩
        · show J _ _ _ _ _ [some (pR (some 158)), some (pI (nI t)), some (pI (nI n)), some (pL (lN (10 ^ (aP A 0 0 0 + 1)))), none, some (pI (nI i1))] _ _ h1
          obtain ⟨hI2, hI3⟩ := hI1
          have hG := hI2.g hG0
          have hM := hM0.mq hI2
          have hQ := hI2
          have e41 : 41 - i1 = (40 - i1) + 1 := by omega
          have e42 : 41 - (i1 + 1) = 40 - i1 := by omega
          refine J_iload dX10_sure_50 rfl ?_
          refine J_bipush (x := nI 40) dX10_sure_52 (by decide) ?_
          refine J_icmp_gtN dX10_sure_54 (by omega) (by omega) (fun c8 => ?_) (fun c8 => ?_)
          · exact (show False by omega).elim
          · refine J_lload_n dX10_sure_57 rfl ?_
            refine J_aload_n dX10_sure_58 rfl ?_
            refine J_iload_n dX10_sure_59 rfl ?_
            refine J_iload dX10_sure_60 rfl ?_
            refine J_cVL (ci := 10) (c := 158) (as := [pI (nI t), pI (nI i1)]) (st := [pL (lN (10 ^ (aP A 0 0 0 + 1)))]) dX10_sure_62 lX10_334 okX10_safeOf vX10_safeOf s158 (by decide) rfl rfl rfl (Nat.le_of_ble_eq_true rfl) ⟨Nat.le_of_ble_eq_true rfl, Nat.le_of_ble_eq_true rfl⟩ CR.f (c_X10_safeOf hG (by omega) (hM.tma hW ht).tm (hM.nm (by decide)) (by omega) (hM.nm (by decide)) (by omega) (x := fun w => aP A 1 w 0) (fun w hw => ⟨hM.x hw, hW.x hw⟩) (u := aV A t) (fun w hw => hM.wm hW ht (by omega)) (by omega)) (fun vg9 g9 eg9 => ?_)
            obtain ⟨rfl, f1⟩ := eg9
            have hG := f1.g hG
            have hM := hM.mq (.of f1)
            have hQ := hQ.tr (.of f1)
            refine J_cvL (y := lN (SO A t i1)) SO_L ?_
            refine J_lsub dX10_sure_65 ?_
            refine J_iload_n dX10_sure_66 rfl ?_
            refine J_i2lN dX10_sure_67 (by omega) ?_
            refine J_lmul dX10_sure_68 ?_
            refine J_lload_n dX10_sure_69 rfl ?_
            refine J_lcmp dX10_sure_70 ?_
            refine J_lif_gt dX10_sure_71 (fun c10 => ?_) (fun c10 => ?_)
            · refine J_iincN (n := 1) (L' := [some (pR (some 158)), some (pI (nI t)), some (pI (nI n)), some (pL (lN (10 ^ (aP A 0 0 0 + 1)))), none, some (pI (nI (i1 + 1)))]) dX10_sure_77 rfl (by decide) rfl ?_
              refine J_goto dX10_sure_80 ?_
              exact ih1 () _ ⟨hQ, by rw [← hI3, e41, e42]; exact (if_neg (fun z => absurd (of_decide_eq_true z) (Int64.not_le.mpr c10))).symm⟩
            · refine J_iload dX10_sure_74 rfl ?_
              exact J_retI dX10_sure_76 rfl ⟨by rw [← hI3, e41]; exact (if_pos (decide_eq_true (Int64.not_lt.mp c10))).symm, hM, hQ.fr⟩
      · exact (show False by omega).elim
    · exact (show False by omega).elim
theorem c_X10_sure_no {h : PH} {A : AS} {t n : Int32} (hG : GR h.2.2) (hM : MI h A) (hW : WF A) (hno : ¬ (okS (aP A) t n ∧ 0 < aP A 0 2 0)) : CtI mX10_sure h [pR (some 158), pI t, pI n] (fun v h' => v = (if okS (aP A) t n then -4 else -2) ∧ MP h h' A) := by
  have bN := hW.1
  have bk := hW.wk
  have bc := hW.cs
  have bw := hW.wn
  have bt := hW.tn
  have bf := hW.fn
  refine Ct.of (L := [some (pR (some 158)), some (pI t), some (pI n), none, none, none]) rfl rfl (Nat.le_of_ble_eq_true rfl) rfl ?_
  refine J_aload_n dX10_sure_0 rfl ?_
  refine J_iload_n dX10_sure_1 rfl ?_
  refine J_cVI (ci := 10) (c := 158) (as := [pI t]) (st := []) dX10_sure_2 lX10_243 okX10_isThing vX10_isThing s158 (by decide) rfl rfl rfl (Nat.le_of_ble_eq_true rfl) ⟨Nat.le_of_ble_eq_true rfl, Nat.le_of_ble_eq_true rfl⟩ CR.f (c_X10_isThing hG (hM.nm (by decide)) (by omega)) (fun vq1 gq1 eq1 => ?_)
  obtain ⟨rfl, fq1⟩ := eq1
  rw [fq1]
  refine J_if_eqB dX10_sure_5 (fun d1 => ?_) (fun d1 => ?_)
  · refine J_bipush (x := (-2)) dX10_sure_19 (by decide) ?_
    exact J_retI dX10_sure_21 rfl ⟨(if_neg (fun q => by simp only [okS, inR, Int32.lt_iff_toInt_lt, Int32.le_iff_toInt_le, tn0, tn1, tn2, tn3, tn4, tn5, tn6, tn10, tn19, tn20, tn40, tn48, tn80, tn89, tn90, tn99, tn999, tn9999, zT] at q d1 <;> omega)).symm, hM, Fr.rf⟩
  · refine J_iload_n dX10_sure_8 rfl ?_
    refine J_iconstN (n := 1) dX10_sure_9 ?_
    refine J_sipush (x := nI 999) dX10_sure_10 (by decide) ?_
    refine J_cSI (as := [pI n, pI (nI 1), pI (nI 999)]) (st := []) dX10_sure_13 lX10_172 okX10_in sX10_in rfl rfl (Nat.le_of_ble_eq_true rfl) ⟨Nat.le_of_ble_eq_true rfl, Nat.le_of_ble_eq_true rfl⟩ CR.f (c_X10_in) (fun vq3 gq3 eq3 => ?_)
    obtain ⟨rfl, fq3⟩ := eq3
    rw [fq3]
    refine J_if_neB dX10_sure_16 (fun d2 => ?_) (fun d2 => ?_)
    · have ok : okS (aP A) t n := ⟨d1, by simp only [Int32.le_iff_toInt_le, tn1, tn999] at d2; omega⟩
      refine J_aload_n dX10_sure_22 rfl ?_
      refine J_cVI (ci := 10) (c := 158) (as := []) (st := []) dX10_sure_23 lX10_234 okX10_hasWinters vX10_hasWinters s158 (by decide) rfl rfl rfl (Nat.le_of_ble_eq_true rfl) ⟨Nat.le_of_ble_eq_true rfl, Nat.le_of_ble_eq_true rfl⟩ CR.f (c_X10_hasWinters hG (hM.nm (by decide)) (by omega)) (fun vq5 gq5 eq5 => ?_)
      obtain ⟨rfl, fq5⟩ := eq5
      rw [fq5]
      refine J_if_neB dX10_sure_26 (fun d3 => ?_) (fun d3 => ?_)
      · exact absurd ⟨ok, d3⟩ hno
      · refine J_bipush (x := (-4)) dX10_sure_29 (by decide) ?_
        exact J_retI dX10_sure_31 rfl ⟨(if_pos ok).symm, hM, Fr.rf⟩
    · refine J_bipush (x := (-2)) dX10_sure_19 (by decide) ?_
      exact J_retI dX10_sure_21 rfl ⟨(if_neg (fun q => by simp only [okS, inR, Int32.lt_iff_toInt_lt, Int32.le_iff_toInt_le, tn0, tn1, tn2, tn3, tn4, tn5, tn6, tn10, tn19, tn20, tn40, tn48, tn80, tn89, tn90, tn99, tn999, tn9999, zT] at q d1 d2 <;> omega)).symm, hM, Fr.rf⟩
theorem c_X10_sure {h : PH} {A : AS} {t n : Int32} (hG : GR h.2.2) (hM : MI h A) (hW : WF A) : CtI mX10_sure h [pR (some 158), pI t, pI n] (fun v h' => v = sureA A t n ∧ MP h h' A) := by
  by_cases hok : okS (aP A) t n ∧ 0 < aP A 0 2 0
  · obtain ⟨⟨h1, h2⟩, h3⟩ := id hok
    obtain ⟨t, ht, rfl⟩ := inR_of h1
    obtain ⟨n, hn, rfl⟩ := inR_of (n := 1000) (t := n) ⟨by omega, by omega⟩
    have bt := hW.tn
    rw [nI_toInt (by omega)] at h2
    rw [sureA, if_pos hok.1, if_neg (by omega), cl, cl, nI_clamp (by omega), nI_clamp (by omega)]
    exact c_X10_sure_in hG hM hW ht (by omega) (by omega) h3
  · have e : sureA A t n = if okS (aP A) t n then -4 else -2 := by
      unfold sureA
      by_cases z : okS (aP A) t n
      · rw [if_pos z, if_pos z, if_pos (Nat.eq_zero_of_not_pos (fun y => hok ⟨z, y⟩))]
      · rw [if_neg z, if_neg z]
    rw [e]
    exact c_X10_sure_no hG hM hW hok
theorem c_X9_worth_in {h : PH} {p : Nat} {A : AS} {t w s : Nat} (hG : GR h.2.2) (hX : XI h p A) (hW : WF A) (ht : t < aP A 0 3 0) (hw : w < aP A 0 0 0) (hs : s < 41) (hn : 0 < aP A 0 2 0) : CtL mX9_worth h [pR (some 0), pI (nI t), pI (nI w), pI (nI s)] (fun v h' => v = vaR A t w (s + 1) - vaR A t w s ∧ XP h h' p A) := by
  have bN := hW.1
  have bk := hW.wk
  have bc := hW.cs
  have bw := hW.wn
  have bt := hW.tn
  have bf := hW.fn
  have hF : Fr 92 102 h h := Fr.rf
  refine Ct.of (L := [some (pR (some 0)), some (pI (nI t)), some (pI (nI w)), some (pI (nI s)), none]) rfl rfl (Nat.le_of_ble_eq_true rfl) rfl ?_
  refine J_aload_n dX9_worth_0 rfl ?_
  refine J_iload_n dX9_worth_1 rfl ?_
  refine J_cVI (ci := 9) (c := 0) (as := [pI (nI t)]) (st := []) dX9_worth_2 lX9_130 okX9_hasThing vX9_hasThing s0 (by decide) rfl rfl rfl (Nat.le_of_ble_eq_true rfl) ⟨Nat.le_of_ble_eq_true rfl, Nat.le_of_ble_eq_true rfl⟩ CR.f (c_X9_hasThing hG hX.po hX.cu hX.tn (by omega)) (fun vq1 gq1 eq1 => ?_)
  obtain ⟨rfl, fq1⟩ := eq1
  rw [fq1]
  refine J_cvI (bI_congr (inR_nI_iff (by omega))) ?_
  refine J_if_eqB dX9_worth_5 (fun c2 => ?_) (fun c2 => ?_)
  · exact (show False by omega).elim
  · refine J_aload_n dX9_worth_8 rfl ?_
    refine J_iload_n dX9_worth_9 rfl ?_
    refine J_cVI (ci := 9) (c := 0) (as := [pI (nI w)]) (st := []) dX9_worth_10 lX9_241 okX9_isWeek vX9_isWeek s0 (by decide) rfl rfl rfl (Nat.le_of_ble_eq_true rfl) ⟨Nat.le_of_ble_eq_true rfl, Nat.le_of_ble_eq_true rfl⟩ CR.f (c_X9_isWeek hG hX hW) (fun vq3 gq3 eq3 => ?_)
    obtain ⟨rfl, fq3⟩ := eq3
    rw [fq3]
    refine J_cvI (bI_congr (inR_nI_iff (by omega))) ?_
    refine J_if_eqB dX9_worth_13 (fun c4 => ?_) (fun c4 => ?_)
    · exact (show False by omega).elim
    · refine J_iload_n dX9_worth_16 rfl ?_
      refine J_cSI (as := [pI (nI s)]) (st := []) dX9_worth_17 lX9_171 okX9_isOrder sX9_isOrder rfl rfl (Nat.le_of_ble_eq_true rfl) ⟨Nat.le_of_ble_eq_true rfl, Nat.le_of_ble_eq_true rfl⟩ CR.f (c_X9_isOrder) (fun vq5 gq5 eq5 => ?_)
      obtain ⟨rfl, fq5⟩ := eq5
      rw [fq5]
      refine J_cvI (bI_congr (inR_nI_iff (by omega))) ?_
      refine J_if_eqB dX9_worth_20 (fun c6 => ?_) (fun c6 => ?_)
      · exact (show False by omega).elim
      · refine J_aload_n dX9_worth_23 rfl ?_
        refine J_getR (r := some p) dX9_worth_24 fX9_20 s0 (fun _ => rfl) (hX.cu) ?_
        refine J_getI dX9_worth_27 fX9_110 hX.po.s (fun _ => rfl) ?_
        refine J_cvI (hX.wn) ?_
        refine J_if_neN dX9_worth_30 (by omega) (fun c7 => ?_) (fun c7 => ?_)
        · refine J_aload_n dX9_worth_37 rfl ?_
          refine J_getR (r := some p) dX9_worth_38 fX9_20 s0 (fun _ => rfl) (hX.cu) ?_
          refine J_getR (r := some (p + 7)) dX9_worth_41 fX9_133 hX.po.s (fun _ => rfl) (hX.po.e10 hG) ?_
          refine J_iload_n dX9_worth_44 rfl ?_
          refine J_aald4N (r := some (p + 9 + 7 * t)) dX9_worth_45 hX.po.s7 (by decide) (by omega) (hX.po.eth hG (by omega)) ?_
          refine J_astore (L' := [some (pR (some 0)), some (pI (nI t)), some (pI (nI w)), some (pI (nI s)), some (pR (some (p + 9 + 7 * t)))]) dX9_worth_46 (by decide) rfl ?_
          refine J_aload_n dX9_worth_48 rfl ?_
          refine J_getR (r := some 92) dX9_worth_49 fX9_37 s0 (fun _ => rfl) (g0_5 hG) ?_
          refine J_aload dX9_worth_52 rfl ?_
          refine J_cVV (ci := 2) (c := 92) (as := [pR (some (p + 9 + 7 * t))]) (st := []) dX9_worth_54 lX9_191 okX2_valueMoney vX2_valueMoney s92 (by decide) rfl rfl rfl (Nat.le_of_ble_eq_true rfl) ⟨Nat.le_of_ble_eq_true rfl, Nat.le_of_ble_eq_true rfl⟩ CR.f (c_X2_valueMoney hG (hX.th hW ht) (hX.t ht (by decide)) (hX.t ht (by decide)) (hX.t ht (by decide)) (hW.t6 ht (by decide)) (hW.t6 ht (by decide)) (hW.t6 ht (by decide))) (fun g8 eg8 => ?_)
          obtain ⟨zO, zE, f1⟩ := eg8
          have hG := f1.g hG
          have hX := hX.fr hW f1 (by decide) (by decide)
          have hF := hF.tr (f1.mo (by decide) (by decide))
          refine J_aload_n dX9_worth_57 rfl ?_
          refine J_getR (r := some 92) dX9_worth_58 fX9_37 s0 (fun _ => rfl) (g0_5 hG) ?_
          refine J_aload_n dX9_worth_61 rfl ?_
          refine J_getR (r := some p) dX9_worth_62 fX9_20 s0 (fun _ => rfl) (hX.cu) ?_
          refine J_aload dX9_worth_65 rfl ?_
          refine J_aload_n dX9_worth_67 rfl ?_
          refine J_getR (r := some p) dX9_worth_68 fX9_20 s0 (fun _ => rfl) (hX.cu) ?_
          refine J_getR (r := some (p + 1)) dX9_worth_71 fX9_127 hX.po.s (fun _ => rfl) (hX.po.e8 hG) ?_
          refine J_aload_n dX9_worth_74 rfl ?_
          refine J_getR (r := some p) dX9_worth_75 fX9_20 s0 (fun _ => rfl) (hX.cu) ?_
          refine J_getI dX9_worth_78 fX9_104 hX.po.s (fun _ => rfl) ?_
          refine J_cvI (hX.wk) ?_
          refine J_iload_n dX9_worth_81 rfl ?_
          refine J_isubN dX9_worth_82 (by omega) ?_
          refine J_iload_n dX9_worth_83 rfl ?_
          refine J_iconstN (n := 1) dX9_worth_84 ?_
          refine J_iaddN dX9_worth_85 ?_
          refine J_cVV (ci := 2) (c := 92) (as := [pR (some p), pR (some (p + 9 + 7 * t)), pR (some (p + 1)), pI (nI (aP A 0 0 0 - w)), pI (nI (s + 1))]) (st := []) dX9_worth_86 lX9_211 okX2_passAny vX2_passAny s92 (by decide) rfl rfl rfl (Nat.le_of_ble_eq_true rfl) ⟨Nat.le_of_ble_eq_true rfl, Nat.le_of_ble_eq_true rfl⟩ CR.f (c_X2_passAny hG hX.po (hX.th hW ht) ⟨hX.po.s1, by have := hX.po.b; omega⟩ hX.wn (by omega) (x := aX A) (fun w hw => hX.x hw) (hX.ta hW ht).th (u := aV A t) (fun w hw => hX.wa hW ht (by omega)) zO zE (by omega) (by omega)) (fun g9 eg9 => ?_)
          obtain ⟨z1, f2⟩ := eg9
          have hG := f2.1.g hG
          have hX := hX.fr hW f2.1 (by decide) (by decide)
          have hF := hF.tr (f2.1.mo (by decide) (by decide))
          refine J_aload_n dX9_worth_89 rfl ?_
          refine J_getR (r := some 92) dX9_worth_90 fX9_37 s0 (fun _ => rfl) (g0_5 hG) ?_
          refine J_getR (r := some 94) dX9_worth_93 fX9_215 s92 (fun _ => rfl) (g92_1 hG) ?_
          refine J_iload_n dX9_worth_96 rfl ?_
          refine J_iconstN (n := 1) dX9_worth_97 ?_
          refine J_iaddN dX9_worth_98 ?_
          refine J_laldN dX9_worth_99 s94 (by decide) (by omega) ?_
          refine J_cvL ((z1 (s + 1) (by omega))) ?_
          refine J_aload_n dX9_worth_100 rfl ?_
          refine J_getR (r := some 92) dX9_worth_101 fX9_37 s0 (fun _ => rfl) (g0_5 hG) ?_
          refine J_getR (r := some 94) dX9_worth_104 fX9_215 s92 (fun _ => rfl) (g92_1 hG) ?_
          refine J_iload_n dX9_worth_107 rfl ?_
          refine J_laldN dX9_worth_108 s94 (by decide) (by omega) ?_
          refine J_cvL ((z1 s (by omega))) ?_
          refine J_lsub dX9_worth_109 ?_
          exact J_retL dX9_worth_110 rfl ⟨rfl, hX, hF.mo (by decide) (by decide)⟩
        · exact (show False by omega).elim
theorem c_X9_worth_no {h : PH} {p : Nat} {A : AS} {t w s : Int32} (hG : GR h.2.2) (hX : XI h p A) (hW : WF A) (hno : ¬ okW (aP A) t w s) : CtL mX9_worth h [pR (some 0), pI t, pI w, pI s] (fun v h' => v = -9000000000000000000 ∧ XP h h' p A) := by
  have bN := hW.1
  have bk := hW.wk
  have bc := hW.cs
  have bw := hW.wn
  have bt := hW.tn
  have bf := hW.fn
  refine Ct.of (L := [some (pR (some 0)), some (pI t), some (pI w), some (pI s), none]) rfl rfl (Nat.le_of_ble_eq_true rfl) rfl ?_
  refine J_aload_n dX9_worth_0 rfl ?_
  refine J_iload_n dX9_worth_1 rfl ?_
  refine J_cVI (ci := 9) (c := 0) (as := [pI t]) (st := []) dX9_worth_2 lX9_130 okX9_hasThing vX9_hasThing s0 (by decide) rfl rfl rfl (Nat.le_of_ble_eq_true rfl) ⟨Nat.le_of_ble_eq_true rfl, Nat.le_of_ble_eq_true rfl⟩ CR.f (c_X9_hasThing hG hX.po hX.cu hX.tn (by omega)) (fun vq1 gq1 eq1 => ?_)
  obtain ⟨rfl, fq1⟩ := eq1
  rw [fq1]
  refine J_if_eqB dX9_worth_5 (fun d1 => ?_) (fun d1 => ?_)
  · refine J_ldc2 dX9_worth_33 kX9_182 ?_
    exact J_retL dX9_worth_36 rfl ⟨rfl, hX, Fr.rf⟩
  · refine J_aload_n dX9_worth_8 rfl ?_
    refine J_iload_n dX9_worth_9 rfl ?_
    refine J_cVI (ci := 9) (c := 0) (as := [pI w]) (st := []) dX9_worth_10 lX9_241 okX9_isWeek vX9_isWeek s0 (by decide) rfl rfl rfl (Nat.le_of_ble_eq_true rfl) ⟨Nat.le_of_ble_eq_true rfl, Nat.le_of_ble_eq_true rfl⟩ CR.f (c_X9_isWeek hG hX hW) (fun vq3 gq3 eq3 => ?_)
    obtain ⟨rfl, fq3⟩ := eq3
    rw [fq3]
    refine J_if_eqB dX9_worth_13 (fun d2 => ?_) (fun d2 => ?_)
    · refine J_ldc2 dX9_worth_33 kX9_182 ?_
      exact J_retL dX9_worth_36 rfl ⟨rfl, hX, Fr.rf⟩
    · refine J_iload_n dX9_worth_16 rfl ?_
      refine J_cSI (as := [pI s]) (st := []) dX9_worth_17 lX9_171 okX9_isOrder sX9_isOrder rfl rfl (Nat.le_of_ble_eq_true rfl) ⟨Nat.le_of_ble_eq_true rfl, Nat.le_of_ble_eq_true rfl⟩ CR.f (c_X9_isOrder) (fun vq5 gq5 eq5 => ?_)
      obtain ⟨rfl, fq5⟩ := eq5
      rw [fq5]
      refine J_if_eqB dX9_worth_20 (fun d3 => ?_) (fun d3 => ?_)
      · refine J_ldc2 dX9_worth_33 kX9_182 ?_
        exact J_retL dX9_worth_36 rfl ⟨rfl, hX, Fr.rf⟩
      · refine J_aload_n dX9_worth_23 rfl ?_
        refine J_getR (r := some p) dX9_worth_24 fX9_20 s0 (fun _ => rfl) (hX.cu) ?_
        refine J_getI dX9_worth_27 fX9_110 hX.po.s (fun _ => rfl) ?_
        refine J_cvI (hX.wn) ?_
        refine J_if_neN dX9_worth_30 (by omega) (fun d4 => ?_) (fun d4 => ?_)
        · exact absurd ⟨d1, d2, d3, by omega⟩ hno
        · refine J_ldc2 dX9_worth_33 kX9_182 ?_
          exact J_retL dX9_worth_36 rfl ⟨rfl, hX, Fr.rf⟩
theorem c_X9_worth {h : PH} {p : Nat} {A : AS} {t w s : Int32} (hG : GR h.2.2) (hX : XI h p A) (hW : WF A) : CtL mX9_worth h [pR (some 0), pI t, pI w, pI s] (fun v h' => v = worthA A t w s ∧ XP h h' p A) := by
  by_cases hok : okW (aP A) t w s
  · obtain ⟨h1, h2, h3, h4⟩ := id hok
    obtain ⟨t, ht, rfl⟩ := inR_of h1
    obtain ⟨w, hw, rfl⟩ := inR_of h2
    obtain ⟨s, hs, rfl⟩ := inR_of h3
    have bt := hW.tn
    have bk := hW.wk
    rw [worthA, if_pos hok, cl, cl, cl, nI_clamp (by omega), nI_clamp (by omega), nI_clamp (by omega)]
    exact c_X9_worth_in hG hX hW ht hw hs h4
  · rw [worthA, if_neg hok]
    exact c_X9_worth_no hG hX hW hok
theorem c_X10_worth_in {h : PH} {A : AS} {t w s : Nat} (hG : GR h.2.2) (hM : MI h A) (hW : WF A) (ht : t < aP A 0 3 0) (hw : w < aP A 0 0 0) (hs : s < 41) (hn : 0 < aP A 0 2 0) : CtL mX10_worth h [pR (some 158), pI (nI t), pI (nI w), pI (nI s)] (fun v h' => v = vaR A t w (s + 1) - vaR A t w s ∧ MP h h' A) := by
  have bN := hW.1
  have bk := hW.wk
  have bc := hW.cs
  have bw := hW.wn
  have bt := hW.tn
  have bf := hW.fn
  have hQ : MFr h h := MFr.rf
  refine Ct.of (L := [some (pR (some 158)), some (pI (nI t)), some (pI (nI w)), some (pI (nI s))]) rfl rfl (Nat.le_of_ble_eq_true rfl) rfl ?_
  refine J_aload_n dX10_worth_0 rfl ?_
  refine J_iload_n dX10_worth_1 rfl ?_
  refine J_cVI (ci := 10) (c := 158) (as := [pI (nI t)]) (st := []) dX10_worth_2 lX10_243 okX10_isThing vX10_isThing s158 (by decide) rfl rfl rfl (Nat.le_of_ble_eq_true rfl) ⟨Nat.le_of_ble_eq_true rfl, Nat.le_of_ble_eq_true rfl⟩ CR.f (c_X10_isThing hG (hM.nm (by decide)) (by omega)) (fun vq1 gq1 eq1 => ?_)
  obtain ⟨rfl, fq1⟩ := eq1
  rw [fq1]
  refine J_cvI (bI_congr (inR_nI_iff (by omega))) ?_
  refine J_if_eqB dX10_worth_5 (fun c2 => ?_) (fun c2 => ?_)
  · exact (show False by omega).elim
  · refine J_iload_n dX10_worth_8 rfl ?_
    refine J_iconstN (n := 0) dX10_worth_9 ?_
    refine J_aload_n dX10_worth_10 rfl ?_
    refine J_getR (r := some 160) dX10_worth_11 fX10_17 s158 (fun _ => rfl) (g158_12 hG) ?_
    refine J_iconstN (n := 0) dX10_worth_14 ?_
    refine J_ialdN dX10_worth_15 s160 (by decide) (by omega) ?_
    refine J_cvI ((hM.nm (k := 0) (by decide))) ?_
    refine J_iconstN (n := 1) dX10_worth_16 ?_
    refine J_isubN dX10_worth_17 (by omega) ?_
    refine J_cSI (as := [pI (nI w), pI (nI 0), pI (nI (aP A 0 0 0 - 1))]) (st := []) dX10_worth_18 lX10_172 okX10_in sX10_in rfl rfl (Nat.le_of_ble_eq_true rfl) ⟨Nat.le_of_ble_eq_true rfl, Nat.le_of_ble_eq_true rfl⟩ CR.f (c_X10_in) (fun vq3 gq3 eq3 => ?_)
    obtain ⟨rfl, fq3⟩ := eq3
    rw [fq3]
    refine J_cvI (bI_congr (inN (by omega) (by omega) (by omega))) ?_
    refine J_if_eqB dX10_worth_21 (fun c4 => ?_) (fun c4 => ?_)
    · exact (show False by omega).elim
    · refine J_iload_n dX10_worth_24 rfl ?_
      refine J_cSI (as := [pI (nI s)]) (st := []) dX10_worth_25 lX10_303 okX10_isOrder sX10_isOrder rfl rfl (Nat.le_of_ble_eq_true rfl) ⟨Nat.le_of_ble_eq_true rfl, Nat.le_of_ble_eq_true rfl⟩ CR.f (c_X10_isOrder) (fun vq5 gq5 eq5 => ?_)
      obtain ⟨rfl, fq5⟩ := eq5
      rw [fq5]
      refine J_cvI (bI_congr (inR_nI_iff (by omega))) ?_
      refine J_if_eqB dX10_worth_28 (fun c6 => ?_) (fun c6 => ?_)
      · exact (show False by omega).elim
      · refine J_aload_n dX10_worth_31 rfl ?_
        refine J_cVI (ci := 10) (c := 158) (as := []) (st := []) dX10_worth_32 lX10_234 okX10_hasWinters vX10_hasWinters s158 (by decide) rfl rfl rfl (Nat.le_of_ble_eq_true rfl) ⟨Nat.le_of_ble_eq_true rfl, Nat.le_of_ble_eq_true rfl⟩ CR.f (c_X10_hasWinters hG (hM.nm (by decide)) (by omega)) (fun vq7 gq7 eq7 => ?_)
        obtain ⟨rfl, fq7⟩ := eq7
        rw [fq7]
        refine J_if_eqB dX10_worth_35 (fun c8 => ?_) (fun c8 => ?_)
        · exact (show False by omega).elim
        · refine J_aload_n dX10_worth_38 rfl ?_
          refine J_iload_n dX10_worth_39 rfl ?_
          refine J_iload_n dX10_worth_40 rfl ?_
          refine J_iload_n dX10_worth_41 rfl ?_
          refine J_iconstN (n := 1) dX10_worth_42 ?_
          refine J_iaddN dX10_worth_43 ?_
          refine J_cVL (ci := 10) (c := 158) (as := [pI (nI t), pI (nI w), pI (nI (s + 1))]) (st := []) dX10_worth_44 lX10_341 okX10_valueFrom vX10_valueFrom s158 (by decide) rfl rfl rfl (Nat.le_of_ble_eq_true rfl) ⟨Nat.le_of_ble_eq_true rfl, Nat.le_of_ble_eq_true rfl⟩ CR.f (c_X10_valueFrom hG (by omega) (hM.tma hW ht) (hM.nm (by decide)) (by omega) hM.k35 (hM.nm (by decide)) (by omega) (x := fun w => aP A 1 w 0) (fun w hw => ⟨hM.x hw, hW.x hw⟩) (u := aV A t) (fun w hw => hM.wm hW ht (by omega)) (by omega) (by omega)) (fun vg9 g9 eg9 => ?_)
          obtain ⟨rfl, f1⟩ := eg9
          have hG := f1.g hG
          have hM := hM.mq (.of f1)
          have hQ := hQ.tr (.of f1)
          refine J_aload_n dX10_worth_47 rfl ?_
          refine J_iload_n dX10_worth_48 rfl ?_
          refine J_iload_n dX10_worth_49 rfl ?_
          refine J_iload_n dX10_worth_50 rfl ?_
          refine J_cVL (ci := 10) (c := 158) (as := [pI (nI t), pI (nI w), pI (nI s)]) (st := [pL (vaR A t w (s + 1))]) dX10_worth_51 lX10_341 okX10_valueFrom vX10_valueFrom s158 (by decide) rfl rfl rfl (Nat.le_of_ble_eq_true rfl) ⟨Nat.le_of_ble_eq_true rfl, Nat.le_of_ble_eq_true rfl⟩ CR.f (c_X10_valueFrom hG (by omega) (hM.tma hW ht) (hM.nm (by decide)) (by omega) hM.k35 (hM.nm (by decide)) (by omega) (x := fun w => aP A 1 w 0) (fun w hw => ⟨hM.x hw, hW.x hw⟩) (u := aV A t) (fun w hw => hM.wm hW ht (by omega)) (by omega) (by omega)) (fun vg10 g10 eg10 => ?_)
          obtain ⟨rfl, f1⟩ := eg10
          have hG := f1.g hG
          have hM := hM.mq (.of f1)
          have hQ := hQ.tr (.of f1)
          refine J_lsub dX10_worth_54 ?_
          refine J_goto dX10_worth_55 ?_
          exact J_retL dX10_worth_61 rfl ⟨rfl, hM, hQ.fr⟩
theorem c_X10_worth_no {h : PH} {A : AS} {t w s : Int32} (hG : GR h.2.2) (hM : MI h A) (hW : WF A) (hno : ¬ okW (aP A) t w s) : CtL mX10_worth h [pR (some 158), pI t, pI w, pI s] (fun v h' => v = -9000000000000000000 ∧ MP h h' A) := by
  have bN := hW.1
  have bk := hW.wk
  have bc := hW.cs
  have bw := hW.wn
  have bt := hW.tn
  have bf := hW.fn
  refine Ct.of (L := [some (pR (some 158)), some (pI t), some (pI w), some (pI s)]) rfl rfl (Nat.le_of_ble_eq_true rfl) rfl ?_
  refine J_aload_n dX10_worth_0 rfl ?_
  refine J_iload_n dX10_worth_1 rfl ?_
  refine J_cVI (ci := 10) (c := 158) (as := [pI t]) (st := []) dX10_worth_2 lX10_243 okX10_isThing vX10_isThing s158 (by decide) rfl rfl rfl (Nat.le_of_ble_eq_true rfl) ⟨Nat.le_of_ble_eq_true rfl, Nat.le_of_ble_eq_true rfl⟩ CR.f (c_X10_isThing hG (hM.nm (by decide)) (by omega)) (fun vq1 gq1 eq1 => ?_)
  obtain ⟨rfl, fq1⟩ := eq1
  rw [fq1]
  refine J_if_eqB dX10_worth_5 (fun d1 => ?_) (fun d1 => ?_)
  · refine J_ldc2 dX10_worth_58 kX10_309 ?_
    exact J_retL dX10_worth_61 rfl ⟨rfl, hM, Fr.rf⟩
  · refine J_iload_n dX10_worth_8 rfl ?_
    refine J_iconstN (n := 0) dX10_worth_9 ?_
    refine J_aload_n dX10_worth_10 rfl ?_
    refine J_getR (r := some 160) dX10_worth_11 fX10_17 s158 (fun _ => rfl) (g158_12 hG) ?_
    refine J_iconstN (n := 0) dX10_worth_14 ?_
    refine J_ialdN dX10_worth_15 s160 (by decide) (by omega) ?_
    refine J_cvI ((hM.nm (k := 0) (by decide))) ?_
    refine J_iconstN (n := 1) dX10_worth_16 ?_
    refine J_isubN dX10_worth_17 (by omega) ?_
    refine J_cSI (as := [pI w, pI (nI 0), pI (nI (aP A 0 0 0 - 1))]) (st := []) dX10_worth_18 lX10_172 okX10_in sX10_in rfl rfl (Nat.le_of_ble_eq_true rfl) ⟨Nat.le_of_ble_eq_true rfl, Nat.le_of_ble_eq_true rfl⟩ CR.f (c_X10_in) (fun vq3 gq3 eq3 => ?_)
    obtain ⟨rfl, fq3⟩ := eq3
    rw [fq3]
    refine J_if_eqB dX10_worth_21 (fun d2 => ?_) (fun d2 => ?_)
    · refine J_ldc2 dX10_worth_58 kX10_309 ?_
      exact J_retL dX10_worth_61 rfl ⟨rfl, hM, Fr.rf⟩
    · refine J_iload_n dX10_worth_24 rfl ?_
      refine J_cSI (as := [pI s]) (st := []) dX10_worth_25 lX10_303 okX10_isOrder sX10_isOrder rfl rfl (Nat.le_of_ble_eq_true rfl) ⟨Nat.le_of_ble_eq_true rfl, Nat.le_of_ble_eq_true rfl⟩ CR.f (c_X10_isOrder) (fun vq5 gq5 eq5 => ?_)
      obtain ⟨rfl, fq5⟩ := eq5
      rw [fq5]
      refine J_if_eqB dX10_worth_28 (fun d3 => ?_) (fun d3 => ?_)
      · refine J_ldc2 dX10_worth_58 kX10_309 ?_
        exact J_retL dX10_worth_61 rfl ⟨rfl, hM, Fr.rf⟩
      · refine J_aload_n dX10_worth_31 rfl ?_
        refine J_cVI (ci := 10) (c := 158) (as := []) (st := []) dX10_worth_32 lX10_234 okX10_hasWinters vX10_hasWinters s158 (by decide) rfl rfl rfl (Nat.le_of_ble_eq_true rfl) ⟨Nat.le_of_ble_eq_true rfl, Nat.le_of_ble_eq_true rfl⟩ CR.f (c_X10_hasWinters hG (hM.nm (by decide)) (by omega)) (fun vq7 gq7 eq7 => ?_)
        obtain ⟨rfl, fq7⟩ := eq7
        rw [fq7]
        refine J_if_eqB dX10_worth_35 (fun d4 => ?_) (fun d4 => ?_)
        · refine J_ldc2 dX10_worth_58 kX10_309 ?_
          exact J_retL dX10_worth_61 rfl ⟨rfl, hM, Fr.rf⟩
        · exact absurd ⟨d1, by have z := inR_e (by omega) d2; rw [show aP A 0 0 0 - 1 + 1 = aP A 0 0 0 by omega] at z; exact z, d3, d4⟩ hno
theorem c_X10_worth {h : PH} {A : AS} {t w s : Int32} (hG : GR h.2.2) (hM : MI h A) (hW : WF A) : CtL mX10_worth h [pR (some 158), pI t, pI w, pI s] (fun v h' => v = worthA A t w s ∧ MP h h' A) := by
  by_cases hok : okW (aP A) t w s
  · obtain ⟨h1, h2, h3, h4⟩ := id hok
    obtain ⟨t, ht, rfl⟩ := inR_of h1
    obtain ⟨w, hw, rfl⟩ := inR_of h2
    obtain ⟨s, hs, rfl⟩ := inR_of h3
    have bt := hW.tn
    have bk := hW.wk
    rw [worthA, if_pos hok, cl, cl, cl, nI_clamp (by omega), nI_clamp (by omega), nI_clamp (by omega)]
    exact c_X10_worth_in hG hM hW ht hw hs h4
  · rw [worthA, if_neg hok]
    exact c_X10_worth_no hG hM hW hok
