/-! ===== second, forTwo ===== -/
abbrev anA (A : AS) (t : Nat) (h : PH) : Prop := ∀ j, j < 41 → h.2.1 183 j = vaR A t 0 j
theorem sdM_eq {A : AS} {t b q : Nat} (hW : WF A) (hn : 0 < aP A 0 2 0) (hq : q ≤ 40) : sL64 (fun w => lN (aP A 1 w 0) * sdV (aP A 2 t) (aU A t 0) (aU A t 1) (aV A t w) b q (aP A 0 0 0) (vaR A t 0) 41) (aP A 0 2 0) = sdF A t b q := sdR_eq (x := aX A) (u := aV A t) hq (hW.xL hn)
theorem anA.fg {A : AS} {t : Nat} {h h' : PH} (a : anA A t h) (f : FG h h') : anA A t h' := fun j hj => (f.l (by decide) (by decide) (by decide) (by decide)).trans (a j hj)
theorem c_X9_second_in {h : PH} {p : Nat} {A : AS} {t q b : Nat} (hG : GR h.2.2) (hX : XI h p A) (hW : WF A) (ht : t < aP A 0 3 0) (hq : q < 41) (hb : b < 11) (hn : 0 < aP A 0 2 0) : CtL mX9_second h [pR (some 0), pI (nI t), pI (nI q), pI (nI b)] (fun v h' => v = sdF A t b q ∧ XP h h' p A) := by
  have bN := hW.1
  have bk := hW.wk
  have bc := hW.cs
  have bw := hW.wn
  have bt := hW.tn
  have bf := hW.fn
  have hF : Fr 92 102 h h := Fr.rf
  refine Ct.of (L := [some (pR (some 0)), some (pI (nI t)), some (pI (nI q)), some (pI (nI b))]) rfl rfl (Nat.le_of_ble_eq_true rfl) rfl ?_
  refine J_aload_n dX9_second_0 rfl ?_
  refine J_iload_n dX9_second_1 rfl ?_
  refine J_cVI (ci := 9) (c := 0) (as := [pI (nI t)]) (st := []) dX9_second_2 lX9_130 okX9_hasThing vX9_hasThing s0 (by decide) rfl rfl rfl (Nat.le_of_ble_eq_true rfl) ⟨Nat.le_of_ble_eq_true rfl, Nat.le_of_ble_eq_true rfl⟩ CR.f (c_X9_hasThing hG hX.po hX.cu hX.tn (by omega)) (fun vq1 gq1 eq1 => ?_)
  obtain ⟨rfl, fq1⟩ := eq1
  rw [fq1]
  refine J_cvI (bI_congr (inR_nI_iff (by omega))) ?_
  refine J_if_eqB dX9_second_5 (fun c2 => ?_) (fun c2 => ?_)
  · exact (show False by omega).elim
  · refine J_iload_n dX9_second_8 rfl ?_
    refine J_cSI (as := [pI (nI q)]) (st := []) dX9_second_9 lX9_171 okX9_isOrder sX9_isOrder rfl rfl (Nat.le_of_ble_eq_true rfl) ⟨Nat.le_of_ble_eq_true rfl, Nat.le_of_ble_eq_true rfl⟩ CR.f (c_X9_isOrder) (fun vq3 gq3 eq3 => ?_)
    obtain ⟨rfl, fq3⟩ := eq3
    rw [fq3]
    refine J_cvI (bI_congr (inR_nI_iff (by omega))) ?_
    refine J_if_eqB dX9_second_12 (fun c4 => ?_) (fun c4 => ?_)
    · exact (show False by omega).elim
    · refine J_iload_n dX9_second_15 rfl ?_
      refine J_if_ltN dX9_second_16 (by omega) ?_
      refine J_iload_n dX9_second_19 rfl ?_
      refine J_bipush (x := nI 10) dX9_second_20 (by decide) ?_
      refine J_icmp_gtN dX9_second_22 (by omega) (by omega) (fun c5 => ?_) (fun c5 => ?_)
      · exact (show False by omega).elim
      · refine J_aload_n dX9_second_25 rfl ?_
        refine J_getR (r := some p) dX9_second_26 fX9_20 s0 (fun _ => rfl) (hX.cu) ?_
        refine J_getI dX9_second_29 fX9_110 hX.po.s (fun _ => rfl) ?_
        refine J_cvI (hX.wn) ?_
        refine J_if_neN dX9_second_32 (by omega) (fun c6 => ?_) (fun c6 => ?_)
        · refine J_aload_n dX9_second_39 rfl ?_
          refine J_getR (r := some 92) dX9_second_40 fX9_37 s0 (fun _ => rfl) (g0_5 hG) ?_
          refine J_aload_n dX9_second_43 rfl ?_
          refine J_getR (r := some p) dX9_second_44 fX9_20 s0 (fun _ => rfl) (hX.cu) ?_
          refine J_aload_n dX9_second_47 rfl ?_
          refine J_getR (r := some p) dX9_second_48 fX9_20 s0 (fun _ => rfl) (hX.cu) ?_
          refine J_getR (r := some (p + 7)) dX9_second_51 fX9_133 hX.po.s (fun _ => rfl) (hX.po.e10 hG) ?_
          refine J_iload_n dX9_second_54 rfl ?_
          refine J_aald4N (r := some (p + 9 + 7 * t)) dX9_second_55 hX.po.s7 (by decide) (by omega) (hX.po.eth hG (by omega)) ?_
          refine J_iload_n dX9_second_56 rfl ?_
          refine J_iload_n dX9_second_57 rfl ?_
          refine J_cVV (ci := 2) (c := 92) (as := [pR (some p), pR (some (p + 9 + 7 * t)), pI (nI b), pI (nI q)]) (st := []) dX9_second_58 lX9_292 okX2_secondRow vX2_secondRow s92 (by decide) rfl rfl rfl (Nat.le_of_ble_eq_true rfl) ⟨Nat.le_of_ble_eq_true rfl, Nat.le_of_ble_eq_true rfl⟩ CR.f (c_X2_secondRow hG hX.po (hX.th hW ht) (hX.ta hW ht) hX.wn (by omega) hX.wk (by omega) (x := aX A) (fun w hw => hX.x hw) (u := aV A t) (fun w hw => hX.wa hW ht (by omega)) (by omega) (by omega)) (fun g7 eg7 => ?_)
          obtain ⟨z1, f2⟩ := eg7
          have hG := f2.g hG
          have hX := hX.fr hW f2 (by decide) (by decide)
          have hF := hF.tr (f2.mo (by decide) (by decide))
          refine J_aload_n dX9_second_61 rfl ?_
          refine J_getR (r := some 92) dX9_second_62 fX9_37 s0 (fun _ => rfl) (g0_5 hG) ?_
          refine J_getR (r := some 94) dX9_second_65 fX9_215 s92 (fun _ => rfl) (g92_1 hG) ?_
          refine J_iload_n dX9_second_68 rfl ?_
          refine J_laldN dX9_second_69 s94 (by decide) (by omega) ?_
          refine J_cvL ((z1 q (by omega))) ?_
          exact J_retL dX9_second_70 rfl ⟨rfl, hX, hF.mo (by decide) (by decide)⟩
        · exact (show False by omega).elim
theorem c_X9_second_no {h : PH} {p : Nat} {A : AS} {t q b : Int32} (hG : GR h.2.2) (hX : XI h p A) (hW : WF A) (hno : ¬ okD (aP A) t q b) : CtL mX9_second h [pR (some 0), pI t, pI q, pI b] (fun v h' => v = -9000000000000000000 ∧ XP h h' p A) := by
  have bN := hW.1
  have bk := hW.wk
  have bc := hW.cs
  have bw := hW.wn
  have bt := hW.tn
  have bf := hW.fn
  refine Ct.of (L := [some (pR (some 0)), some (pI t), some (pI q), some (pI b)]) rfl rfl (Nat.le_of_ble_eq_true rfl) rfl ?_
  refine J_aload_n dX9_second_0 rfl ?_
  refine J_iload_n dX9_second_1 rfl ?_
  refine J_cVI (ci := 9) (c := 0) (as := [pI t]) (st := []) dX9_second_2 lX9_130 okX9_hasThing vX9_hasThing s0 (by decide) rfl rfl rfl (Nat.le_of_ble_eq_true rfl) ⟨Nat.le_of_ble_eq_true rfl, Nat.le_of_ble_eq_true rfl⟩ CR.f (c_X9_hasThing hG hX.po hX.cu hX.tn (by omega)) (fun vq1 gq1 eq1 => ?_)
  obtain ⟨rfl, fq1⟩ := eq1
  rw [fq1]
  refine J_if_eqB dX9_second_5 (fun d1 => ?_) (fun d1 => ?_)
  · refine J_ldc2 dX9_second_35 kX9_182 ?_
    exact J_retL dX9_second_38 rfl ⟨rfl, hX, Fr.rf⟩
  · refine J_iload_n dX9_second_8 rfl ?_
    refine J_cSI (as := [pI q]) (st := []) dX9_second_9 lX9_171 okX9_isOrder sX9_isOrder rfl rfl (Nat.le_of_ble_eq_true rfl) ⟨Nat.le_of_ble_eq_true rfl, Nat.le_of_ble_eq_true rfl⟩ CR.f (c_X9_isOrder) (fun vq3 gq3 eq3 => ?_)
    obtain ⟨rfl, fq3⟩ := eq3
    rw [fq3]
    refine J_if_eqB dX9_second_12 (fun d2 => ?_) (fun d2 => ?_)
    · refine J_ldc2 dX9_second_35 kX9_182 ?_
      exact J_retL dX9_second_38 rfl ⟨rfl, hX, Fr.rf⟩
    · refine J_iload_n dX9_second_15 rfl ?_
      refine J_if_lt dX9_second_16 (fun d3 => ?_) (fun d3 => ?_)
      · refine J_ldc2 dX9_second_35 kX9_182 ?_
        exact J_retL dX9_second_38 rfl ⟨rfl, hX, Fr.rf⟩
      · refine J_iload_n dX9_second_19 rfl ?_
        refine J_bipush (x := nI 10) dX9_second_20 (by decide) ?_
        refine J_icmp_gt dX9_second_22 (fun d4 => ?_) (fun d4 => ?_)
        · refine J_ldc2 dX9_second_35 kX9_182 ?_
          exact J_retL dX9_second_38 rfl ⟨rfl, hX, Fr.rf⟩
        · refine J_aload_n dX9_second_25 rfl ?_
          refine J_getR (r := some p) dX9_second_26 fX9_20 s0 (fun _ => rfl) (hX.cu) ?_
          refine J_getI dX9_second_29 fX9_110 hX.po.s (fun _ => rfl) ?_
          refine J_cvI (hX.wn) ?_
          refine J_if_neN dX9_second_32 (by omega) (fun d5 => ?_) (fun d5 => ?_)
          · exact absurd ⟨d1, d2, inR_d (n := 10) (by decide) d3 d4, by omega⟩ hno
          · refine J_ldc2 dX9_second_35 kX9_182 ?_
            exact J_retL dX9_second_38 rfl ⟨rfl, hX, Fr.rf⟩
theorem c_X9_second {h : PH} {p : Nat} {A : AS} {t q b : Int32} (hG : GR h.2.2) (hX : XI h p A) (hW : WF A) : CtL mX9_second h [pR (some 0), pI t, pI q, pI b] (fun v h' => v = secondA A t q b ∧ XP h h' p A) := by
  by_cases hok : okD (aP A) t q b
  · obtain ⟨h1, h2, h3, h4⟩ := id hok
    obtain ⟨t, ht, rfl⟩ := inR_of h1
    obtain ⟨q, hq, rfl⟩ := inR_of h2
    obtain ⟨b, hb, rfl⟩ := inR_of h3
    have bt := hW.tn
    rw [secondA, if_pos hok, cl, cl, cl, nI_clamp (by omega), nI_clamp (by omega), nI_clamp (by omega)]
    exact c_X9_second_in hG hX hW ht hq hb h4
  · rw [secondA, if_neg hok]
    exact c_X9_second_no hG hX hW hok
theorem c_X9_forTwo_in {h : PH} {p : Nat} {A : AS} {t b : Nat} (hG : GR h.2.2) (hX : XI h p A) (hW : WF A) (ht : t < aP A 0 3 0) (hb : b < 11) (hn : 0 < aP A 0 2 0) : CtI mX9_forTwo h [pR (some 0), pI (nI t), pI (nI b)] (fun v h' => v = nI (bst (sdF A t b) 40) ∧ XP h h' p A) := by
  have bN := hW.1
  have bk := hW.wk
  have bc := hW.cs
  have bw := hW.wn
  have bt := hW.tn
  have bf := hW.fn
  have hF : Fr 92 102 h h := Fr.rf
  refine Ct.of (L := [some (pR (some 0)), some (pI (nI t)), some (pI (nI b))]) rfl rfl (Nat.le_of_ble_eq_true rfl) rfl ?_
  refine J_aload_n dX9_forTwo_0 rfl ?_
  refine J_iload_n dX9_forTwo_1 rfl ?_
  refine J_cVI (ci := 9) (c := 0) (as := [pI (nI t)]) (st := []) dX9_forTwo_2 lX9_130 okX9_hasThing vX9_hasThing s0 (by decide) rfl rfl rfl (Nat.le_of_ble_eq_true rfl) ⟨Nat.le_of_ble_eq_true rfl, Nat.le_of_ble_eq_true rfl⟩ CR.f (c_X9_hasThing hG hX.po hX.cu hX.tn (by omega)) (fun vq1 gq1 eq1 => ?_)
  obtain ⟨rfl, fq1⟩ := eq1
  rw [fq1]
  refine J_cvI (bI_congr (inR_nI_iff (by omega))) ?_
  refine J_if_eqB dX9_forTwo_5 (fun c2 => ?_) (fun c2 => ?_)
  · exact (show False by omega).elim
  · refine J_iload_n dX9_forTwo_8 rfl ?_
    refine J_if_ltN dX9_forTwo_9 (by omega) ?_
    refine J_iload_n dX9_forTwo_12 rfl ?_
    refine J_bipush (x := nI 10) dX9_forTwo_13 (by decide) ?_
    refine J_icmp_leN dX9_forTwo_15 (by omega) (by omega) (fun c3 => ?_) (fun c3 => ?_)
    · refine J_aload_n dX9_forTwo_21 rfl ?_
      refine J_getR (r := some p) dX9_forTwo_22 fX9_20 s0 (fun _ => rfl) (hX.cu) ?_
      refine J_getI dX9_forTwo_25 fX9_110 hX.po.s (fun _ => rfl) ?_
      refine J_cvI (hX.wn) ?_
      refine J_if_neN dX9_forTwo_28 (by omega) (fun c4 => ?_) (fun c4 => ?_)
      · refine J_aload_n dX9_forTwo_34 rfl ?_
        refine J_getR (r := some 92) dX9_forTwo_35 fX9_37 s0 (fun _ => rfl) (g0_5 hG) ?_
        refine J_aload_n dX9_forTwo_38 rfl ?_
        refine J_getR (r := some p) dX9_forTwo_39 fX9_20 s0 (fun _ => rfl) (hX.cu) ?_
        refine J_aload_n dX9_forTwo_42 rfl ?_
        refine J_getR (r := some p) dX9_forTwo_43 fX9_20 s0 (fun _ => rfl) (hX.cu) ?_
        refine J_getR (r := some (p + 7)) dX9_forTwo_46 fX9_133 hX.po.s (fun _ => rfl) (hX.po.e10 hG) ?_
        refine J_iload_n dX9_forTwo_49 rfl ?_
        refine J_aald4N (r := some (p + 9 + 7 * t)) dX9_forTwo_50 hX.po.s7 (by decide) (by omega) (hX.po.eth hG (by omega)) ?_
        refine J_iload_n dX9_forTwo_51 rfl ?_
        refine J_bipush (x := nI 40) dX9_forTwo_52 (by decide) ?_
        refine J_cVV (ci := 2) (c := 92) (as := [pR (some p), pR (some (p + 9 + 7 * t)), pI (nI b), pI (nI 40)]) (st := []) dX9_forTwo_54 lX9_292 okX2_secondRow vX2_secondRow s92 (by decide) rfl rfl rfl (Nat.le_of_ble_eq_true rfl) ⟨Nat.le_of_ble_eq_true rfl, Nat.le_of_ble_eq_true rfl⟩ CR.f (c_X2_secondRow hG hX.po (hX.th hW ht) (hX.ta hW ht) hX.wn (by omega) hX.wk (by omega) (x := aX A) (fun w hw => hX.x hw) (u := aV A t) (fun w hw => hX.wa hW ht (by omega)) (by omega) (by omega)) (fun g5 eg5 => ?_)
        obtain ⟨z1, f2⟩ := eg5
        have hG := f2.g hG
        have hX := hX.fr hW f2 (by decide) (by decide)
        have hF := hF.tr (f2.mo (by decide) (by decide))
        refine J_aload_n dX9_forTwo_57 rfl ?_
        refine J_getR (r := some 92) dX9_forTwo_58 fX9_37 s0 (fun _ => rfl) (g0_5 hG) ?_
        refine J_cVI (ci := 2) (c := 92) (as := []) (st := []) dX9_forTwo_61 lX9_232 okX2_bestOrder vX2_bestOrder s92 (by decide) rfl rfl rfl (Nat.le_of_ble_eq_true rfl) ⟨Nat.le_of_ble_eq_true rfl, Nat.le_of_ble_eq_true rfl⟩ CR.f (c_X2_bestOrder hG) (fun vq6 gq6 eq6 => ?_)
        obtain ⟨rfl, fq6⟩ := eq6
        rw [fq6]
        refine J_cvI (y := nI (bst (sdF A t b) 40)) (by rw [bst_cg 40 (fun i hi => z1 i hi)]; rfl) ?_
        exact J_retI dX9_forTwo_64 rfl ⟨rfl, hX, hF.mo (by decide) (by decide)⟩
      · exact (show False by omega).elim
    · exact (show False by omega).elim
theorem c_X9_forTwo_no {h : PH} {p : Nat} {A : AS} {t b : Int32} (hG : GR h.2.2) (hX : XI h p A) (hW : WF A) (hno : ¬ ((inR t (aP A 0 3 0) ∧ inR b 11) ∧ 0 < aP A 0 2 0)) : CtI mX9_forTwo h [pR (some 0), pI t, pI b] (fun v h' => v = (if inR t (aP A 0 3 0) ∧ inR b 11 then -4 else -2) ∧ XP h h' p A) := by
  have bN := hW.1
  have bk := hW.wk
  have bc := hW.cs
  have bw := hW.wn
  have bt := hW.tn
  have bf := hW.fn
  refine Ct.of (L := [some (pR (some 0)), some (pI t), some (pI b)]) rfl rfl (Nat.le_of_ble_eq_true rfl) rfl ?_
  refine J_aload_n dX9_forTwo_0 rfl ?_
  refine J_iload_n dX9_forTwo_1 rfl ?_
  refine J_cVI (ci := 9) (c := 0) (as := [pI t]) (st := []) dX9_forTwo_2 lX9_130 okX9_hasThing vX9_hasThing s0 (by decide) rfl rfl rfl (Nat.le_of_ble_eq_true rfl) ⟨Nat.le_of_ble_eq_true rfl, Nat.le_of_ble_eq_true rfl⟩ CR.f (c_X9_hasThing hG hX.po hX.cu hX.tn (by omega)) (fun vq1 gq1 eq1 => ?_)
  obtain ⟨rfl, fq1⟩ := eq1
  rw [fq1]
  refine J_if_eqB dX9_forTwo_5 (fun d1 => ?_) (fun d1 => ?_)
  · refine J_bipush (x := (-2)) dX9_forTwo_18 (by decide) ?_
    exact J_retI dX9_forTwo_20 rfl ⟨(if_neg (fun q => by simp only [inR, Int32.lt_iff_toInt_lt, Int32.le_iff_toInt_le, tn0, tn1, tn2, tn3, tn4, tn5, tn6, tn10, tn19, tn20, tn40, tn48, tn80, tn89, tn90, tn99, tn999, tn9999, zT] at q d1 <;> omega)).symm, hX, Fr.rf⟩
  · refine J_iload_n dX9_forTwo_8 rfl ?_
    refine J_if_lt dX9_forTwo_9 (fun d2 => ?_) (fun d2 => ?_)
    · refine J_bipush (x := (-2)) dX9_forTwo_18 (by decide) ?_
      exact J_retI dX9_forTwo_20 rfl ⟨(if_neg (fun q => by simp only [inR, Int32.lt_iff_toInt_lt, Int32.le_iff_toInt_le, tn0, tn1, tn2, tn3, tn4, tn5, tn6, tn10, tn19, tn20, tn40, tn48, tn80, tn89, tn90, tn99, tn999, tn9999, zT] at q d1 d2 <;> omega)).symm, hX, Fr.rf⟩
    · refine J_iload_n dX9_forTwo_12 rfl ?_
      refine J_bipush (x := nI 10) dX9_forTwo_13 (by decide) ?_
      refine J_icmp_le dX9_forTwo_15 (fun d3 => ?_) (fun d3 => ?_)
      · have ok : inR t (aP A 0 3 0) ∧ inR b 11 := ⟨d1, inR_c (n := 10) (by decide) d2 d3⟩
        refine J_aload_n dX9_forTwo_21 rfl ?_
        refine J_getR (r := some p) dX9_forTwo_22 fX9_20 s0 (fun _ => rfl) (hX.cu) ?_
        refine J_getI dX9_forTwo_25 fX9_110 hX.po.s (fun _ => rfl) ?_
        refine J_cvI (hX.wn) ?_
        refine J_if_neN dX9_forTwo_28 (by omega) (fun d4 => ?_) (fun d4 => ?_)
        · exact absurd ⟨ok, by omega⟩ hno
        · refine J_bipush (x := (-4)) dX9_forTwo_31 (by decide) ?_
          exact J_retI dX9_forTwo_33 rfl ⟨(if_pos ok).symm, hX, Fr.rf⟩
      · refine J_bipush (x := (-2)) dX9_forTwo_18 (by decide) ?_
        exact J_retI dX9_forTwo_20 rfl ⟨(if_neg (fun q => by simp only [inR, Int32.lt_iff_toInt_lt, Int32.le_iff_toInt_le, tn0, tn1, tn2, tn3, tn4, tn5, tn6, tn10, tn19, tn20, tn40, tn48, tn80, tn89, tn90, tn99, tn999, tn9999, zT] at q d1 d2 d3 <;> omega)).symm, hX, Fr.rf⟩
theorem c_X9_forTwo {h : PH} {p : Nat} {A : AS} {t b : Int32} (hG : GR h.2.2) (hX : XI h p A) (hW : WF A) : CtI mX9_forTwo h [pR (some 0), pI t, pI b] (fun v h' => v = forTwoA A t b ∧ XP h h' p A) := by
  by_cases hok : (inR t (aP A 0 3 0) ∧ inR b 11) ∧ 0 < aP A 0 2 0
  · obtain ⟨⟨h1, h2⟩, h3⟩ := id hok
    obtain ⟨t, ht, rfl⟩ := inR_of h1
    obtain ⟨b, hb, rfl⟩ := inR_of h2
    have bt := hW.tn
    rw [forTwoA, if_pos hok.1, if_neg (by omega), cl, cl, nI_clamp (by omega), nI_clamp (by omega)]
    exact c_X9_forTwo_in hG hX hW ht hb h3
  · have e : forTwoA A t b = if inR t (aP A 0 3 0) ∧ inR b 11 then -4 else -2 := by
      unfold forTwoA
      by_cases z : inR t (aP A 0 3 0) ∧ inR b 11
      · rw [if_pos z, if_pos z, if_pos (Nat.eq_zero_of_not_pos (fun y => hok ⟨z, y⟩))]
      · rw [if_neg z, if_neg z]
    rw [e]
    exact c_X9_forTwo_no hG hX hW hok
theorem c_X10_makeAnother {h : PH} {A : AS} {t : Nat} (hG : GR h.2.2) (hM : MI h A) (hW : WF A) (ht : t < aP A 0 3 0) : CtV mX10_makeAnother h [pR (some 158), pI (nI t)] (fun h' => anA A t h' ∧ MFr h h') := by
  have bN := hW.1
  have bk := hW.wk
  have bc := hW.cs
  have bw := hW.wn
  have bt := hW.tn
  have bf := hW.fn
  have hM0 := hM
  have hG0 := hG
  refine Ct.of (L := [some (pR (some 158)), some (pI (nI t)), none]) rfl rfl (Nat.le_of_ble_eq_true rfl) rfl ?_
  refine J_iconstN (n := 0) dX10_makeAnother_0 ?_
  refine J_istore_n (L' := [some (pR (some 158)), some (pI (nI t)), some (pI (nI 0))]) dX10_makeAnother_1 (by decide) rfl ?_
  refine J_L (L' := [some (pR (some 158)), some (pI (nI t)), some (pI (nI 0))]) rfl ?_
  refine J_forI (α := Unit) (L := fun i1 aa1 => [some (pR (some 158)), some (pI (nI t)), some (pI (nI i1))]) (fun i1 aa1 h1 => (∀ j, j < i1 → h1.2.1 183 j = vaR A t 0 j) ∧ MFr h h1) (e := 41) (fun aa1 h1 hI1 => ?_) (fun i1 aa1 h1 hi1 hI1 ih1 => ?_) 0 (()) _ (by omega) (⟨fun j hj => absurd hj (Nat.not_lt_zero j), MFr.rf⟩)
  · show J _ _ _ _ _ [some (pR (some 158)), some (pI (nI t)), some (pI (nI 41))] _ _ h1
    obtain ⟨hA, hQ⟩ := hI1
    have hM := hM0.mq hQ
    have hG := hQ.g hG0
    refine J_iload_n dX10_makeAnother_2 rfl ?_
    refine J_bipush (x := nI 40) dX10_makeAnother_3 (by decide) ?_
    refine J_icmp_gtN dX10_makeAnother_5 (by decide) (by decide) (fun c0 => ?_) (fun c0 => absurd c0 (by decide))
    exact J_retV dX10_makeAnother_27 rfl ⟨hA, hQ⟩
  · show J _ _ _ _ _ [some (pR (some 158)), some (pI (nI t)), some (pI (nI i1))] _ _ h1
    obtain ⟨hA, hQ⟩ := hI1
    have hM := hM0.mq hQ
    have hG := hQ.g hG0
    refine J_iload_n dX10_makeAnother_2 rfl ?_
    refine J_bipush (x := nI 40) dX10_makeAnother_3 (by decide) ?_
    refine J_icmp_gtN dX10_makeAnother_5 (by omega) (by omega) (fun c1 => ?_) (fun c1 => ?_)
    · exact (show False by omega).elim
    · refine J_aload_n dX10_makeAnother_8 rfl ?_
      refine J_getR (r := some 183) dX10_makeAnother_9 fX10_92 s158 (fun _ => rfl) (g158_47 hG) ?_
      refine J_iload_n dX10_makeAnother_12 rfl ?_
      refine J_aload_n dX10_makeAnother_13 rfl ?_
      refine J_iload_n dX10_makeAnother_14 rfl ?_
      refine J_iconstN (n := 0) dX10_makeAnother_15 ?_
      refine J_iload_n dX10_makeAnother_16 rfl ?_
      refine J_cVL (ci := 10) (c := 158) (as := [pI (nI t), pI (nI 0), pI (nI i1)]) (st := [pI (nI i1), pR (some 183)]) dX10_makeAnother_17 lX10_341 okX10_valueFrom vX10_valueFrom s158 (by decide) rfl rfl rfl (Nat.le_of_ble_eq_true rfl) ⟨Nat.le_of_ble_eq_true rfl, Nat.le_of_ble_eq_true rfl⟩ CR.f (c_X10_valueFrom hG (by omega) (hM.tma hW ht) (hM.nm (by decide)) (by omega) hM.k35 (hM.nm (by decide)) (by omega) (x := fun w => aP A 1 w 0) (fun w hw => ⟨hM.x hw, hW.x hw⟩) (u := aV A t) (fun w hw => hM.wm hW ht (by omega)) (by omega) (by omega)) (fun vg2 g2 eg2 => ?_)
      obtain ⟨rfl, f1⟩ := eg2
      have hG := f1.g hG
      have hM := hM.mq (.of f1)
      have hQ := hQ.tr (.of f1)
      refine J_lastN dX10_makeAnother_20 s183 (by decide) (by omega) ?_
      refine J_iincN (n := 1) (L' := [some (pR (some 158)), some (pI (nI t)), some (pI (nI (i1 + 1)))]) dX10_makeAnother_21 rfl (by decide) rfl ?_
      refine J_goto dX10_makeAnother_24 ?_
      exact ih1 () _ ⟨fun j hj => by
    by_cases q : j = i1
    · subst q; exact rL_s
    · exact (rL_k q).trans ((f1.l (by decide) (by decide) (by decide) (by decide)).trans (hA j (by omega))), hQ.tr (MFr.sl (by decide) (by decide) (by decide))⟩
theorem c_X10_secondOf {h : PH} {A : AS} {t q b : Nat} (hG : GR h.2.2) (hM : MI h A) (hW : WF A) (ht : t < aP A 0 3 0) (hq : q < 41) (hb : b < 11) (hn : 0 < aP A 0 2 0) (hA0 : anA A t h) : CtL mX10_secondOf h [pR (some 158), pI (nI t), pI (nI q), pI (nI b)] (fun v h' => v = sdF A t b q ∧ FG h h') := by
  have bN := hW.1
  have bk := hW.wk
  have bc := hW.cs
  have bw := hW.wn
  have bt := hW.tn
  have bf := hW.fn
  have hM0 := hM
  have hG0 := hG
  have b1 := (hW.t ht).2.1
  have b4 := (hW.t ht).2.2.2.2.1
  have b2 := (hW.t ht).2.2.1
  have b3 := (hW.t ht).2.2.2.1
  have b10 : (10 - b) * aP A 2 t 4 ≤ 10 * 99 := Nat.mul_le_mul (by omega) b4
  refine Ct.of (L := [some (pR (some 158)), some (pI (nI t)), some (pI (nI q)), some (pI (nI b)), none, none, none, none, none, none, none, none]) rfl rfl (Nat.le_of_ble_eq_true rfl) rfl ?_
  refine J_aload_n dX10_secondOf_0 rfl ?_
  refine J_aload_n dX10_secondOf_1 rfl ?_
  refine J_getR (r := some 160) dX10_secondOf_2 fX10_17 s158 (fun _ => rfl) (g158_12 hG) ?_
  refine J_iconstN (n := 0) dX10_secondOf_5 ?_
  refine J_ialdN dX10_secondOf_6 s160 (by decide) (by omega) ?_
  refine J_cvI ((hM.nm (k := 0) (by decide))) ?_
  refine J_iconstN (n := 1) dX10_secondOf_7 ?_
  refine J_iaddN dX10_secondOf_8 ?_
  refine J_cVL (ci := 10) (c := 158) (as := [pI (nI (aP A 0 0 0 + 1))]) (st := []) dX10_secondOf_9 lX10_290 okX10_tens vX10_tens s158 (by decide) rfl rfl rfl (Nat.le_of_ble_eq_true rfl) ⟨Nat.le_of_ble_eq_true rfl, Nat.le_of_ble_eq_true rfl⟩ CR.f (c_X10_tens (by omega)) (fun vq1 gq1 eq1 => ?_)
  obtain ⟨rfl, fq1⟩ := eq1
  rw [fq1]
  refine J_lstore (L' := [some (pR (some 158)), some (pI (nI t)), some (pI (nI q)), some (pI (nI b)), some (pL (tenL (aP A 0 0 0 + 1))), none, none, none, none, none, none, none]) dX10_secondOf_12 (by decide) rfl ?_
  refine J_lconst (x := 0) dX10_secondOf_14 rfl ?_
  refine J_lstore (L' := [some (pR (some 158)), some (pI (nI t)), some (pI (nI q)), some (pI (nI b)), some (pL (tenL (aP A 0 0 0 + 1))), none, some (pL 0), none, none, none, none, none]) dX10_secondOf_15 (by decide) rfl ?_
  refine J_iconstN (n := 0) dX10_secondOf_17 ?_
  refine J_istore (L' := [some (pR (some 158)), some (pI (nI t)), some (pI (nI q)), some (pI (nI b)), some (pL (tenL (aP A 0 0 0 + 1))), none, some (pL 0), none, some (pI (nI 0)), none, none, none]) dX10_secondOf_18 (by decide) rfl ?_
  refine J_L (L' := [some (pR (some 158)), some (pI (nI t)), some (pI (nI q)), some (pI (nI b)), some (pL (tenL (aP A 0 0 0 + 1))), none, some (pL (sL64 (fun w => lN (aP A 1 w 0) * sdV (aP A 2 t) (aU A t 0) (aU A t 1) (aV A t w) b q (aP A 0 0 0) (vaR A t 0) 41) 0)), none, some (pI (nI 0)), none, none, none]) rfl ?_
  refine J_forI (α := Unit) (L := fun i1 aa1 => [some (pR (some 158)), some (pI (nI t)), some (pI (nI q)), some (pI (nI b)), some (pL (tenL (aP A 0 0 0 + 1))), none, some (pL (sL64 (fun w => lN (aP A 1 w 0) * sdV (aP A 2 t) (aU A t 0) (aU A t 1) (aV A t w) b q (aP A 0 0 0) (vaR A t 0) 41) i1)), none, some (pI (nI i1)), none, none, none]) (fun i1 aa1 h1 => FG h h1) (e := aP A 0 2 0) (fun aa1 h1 hI1 => ?_) (fun i1 aa1 h1 hi1 hI1 ih1 => ?_) 0 (()) _ (by omega) (FG.rf)
  · show J _ _ _ _ _ [some (pR (some 158)), some (pI (nI t)), some (pI (nI q)), some (pI (nI b)), some (pL (tenL (aP A 0 0 0 + 1))), none, some (pL (sL64 (fun w => lN (aP A 1 w 0) * sdV (aP A 2 t) (aU A t 0) (aU A t 1) (aV A t w) b q (aP A 0 0 0) (vaR A t 0) 41) (aP A 0 2 0))), none, some (pI (nI (aP A 0 2 0))), none, none, none] _ _ h1
    have hM := hM0.mq (.of hI1)
    have hG := hI1.g hG0
    have hA := hA0.fg hI1
    have hQ := hI1
    refine J_iload dX10_secondOf_20 rfl ?_
    refine J_aload_n dX10_secondOf_22 rfl ?_
    refine J_getR (r := some 160) dX10_secondOf_23 fX10_17 s158 (fun _ => rfl) (g158_12 hG) ?_
    refine J_iconstN (n := 2) dX10_secondOf_26 ?_
    refine J_ialdN dX10_secondOf_27 s160 (by decide) (by omega) ?_
    refine J_cvI ((hM.nm (k := 2) (by decide))) ?_
    refine J_icmp_geN dX10_secondOf_28 (by omega) (by omega) (fun c2 => ?_) (fun c2 => ?_)
    · refine J_lload dX10_secondOf_178 rfl ?_
      exact J_retL dX10_secondOf_180 rfl ⟨sdM_eq hW hn (by omega), hQ⟩
    · exact (show False by omega).elim
  · show J _ _ _ _ _ [some (pR (some 158)), some (pI (nI t)), some (pI (nI q)), some (pI (nI b)), some (pL (tenL (aP A 0 0 0 + 1))), none, some (pL (sL64 (fun w => lN (aP A 1 w 0) * sdV (aP A 2 t) (aU A t 0) (aU A t 1) (aV A t w) b q (aP A 0 0 0) (vaR A t 0) 41) i1)), none, some (pI (nI i1)), none, none, none] _ _ h1
    have hM := hM0.mq (.of hI1)
    have hG := hI1.g hG0
    have hA := hA0.fg hI1
    have hQ := hI1
    have bx := hW.x hi1
    refine J_iload dX10_secondOf_20 rfl ?_
    refine J_aload_n dX10_secondOf_22 rfl ?_
    refine J_getR (r := some 160) dX10_secondOf_23 fX10_17 s158 (fun _ => rfl) (g158_12 hG) ?_
    refine J_iconstN (n := 2) dX10_secondOf_26 ?_
    refine J_ialdN dX10_secondOf_27 s160 (by decide) (by omega) ?_
    refine J_cvI ((hM.nm (k := 2) (by decide))) ?_
    refine J_icmp_geN dX10_secondOf_28 (by omega) (by omega) (fun c3 => ?_) (fun c3 => ?_)
    · exact (show False by omega).elim
    · refine J_aload_n dX10_secondOf_31 rfl ?_
      refine J_iload_n dX10_secondOf_32 rfl ?_
      refine J_iload dX10_secondOf_33 rfl ?_
      refine J_iconstN (n := 0) dX10_secondOf_35 ?_
      refine J_iload_n dX10_secondOf_36 rfl ?_
      refine J_cVV (ci := 10) (c := 158) (as := [pI (nI t), pI (nI i1), pI (nI 0), pI (nI q)]) (st := []) dX10_secondOf_37 lX10_311 okX10_goThrough vX10_goThrough s158 (by decide) rfl rfl rfl (Nat.le_of_ble_eq_true rfl) ⟨Nat.le_of_ble_eq_true rfl, Nat.le_of_ble_eq_true rfl⟩ CR.f (c_X10_goThrough (sf := 0) (S := 0) (M := 0) hG (by omega) (by omega) (hM.tma hW ht).tm (hM.wm hW ht (by omega)) (hM.nm (by decide)) (by omega) (Nat.zero_le _) (by omega) hM.k35 (by decide) (fun z => absurd rfl z)) (fun g2 e2 => ?_)
      obtain ⟨z1, z2, -, -, f1⟩ := e2
      rw [Nat.sub_zero] at z1 z2
      have hG := f1.g hG
      have hM := hM.mq (.of f1)
      have hA := hA.fg f1
      have hQ := hQ.tr f1
      refine J_aload_n dX10_secondOf_40 rfl ?_
      refine J_iload_n dX10_secondOf_41 rfl ?_
      refine J_iconstN (n := 2) dX10_secondOf_42 ?_
      refine J_cVI (ci := 10) (c := 158) (as := [pI (nI t), pI (nI 2)]) (st := []) dX10_secondOf_43 lX10_246 okX10_of vX10_of s158 (by decide) rfl rfl rfl (Nat.le_of_ble_eq_true rfl) ⟨Nat.le_of_ble_eq_true rfl, Nat.le_of_ble_eq_true rfl⟩ CR.f (c_X10_of hG (by omega) (by decide) (hM.t ht (by decide))) (fun vq4 gq4 eq4 => ?_)
      obtain ⟨rfl, fq4⟩ := eq4
      rw [fq4]
      refine J_i2lN dX10_secondOf_46 (by omega) ?_
      refine J_aload_n dX10_secondOf_47 rfl ?_
      refine J_getR (r := some 175) dX10_secondOf_48 fX10_65 s158 (fun _ => rfl) (g158_34 hG) ?_
      refine J_iconstN (n := 0) dX10_secondOf_51 ?_
      refine J_laldN dX10_secondOf_52 s175 (by decide) (by omega) ?_
      refine J_cvL (z2.1) ?_
      refine J_lmul dX10_secondOf_53 ?_
      refine J_aload_n dX10_secondOf_54 rfl ?_
      refine J_iload_n dX10_secondOf_55 rfl ?_
      refine J_iconstN (n := 3) dX10_secondOf_56 ?_
      refine J_cVI (ci := 10) (c := 158) (as := [pI (nI t), pI (nI 3)]) (st := [pL ((lN (aP A 2 t 2)) * (MW (cgv (aU A t 0) (aU A t 1) (aV A t i1)) (aU A t 0) (aU A t 1) (aP A 2 t 5) (aV A t i1) 0 0 0 0 q (aP A 0 0 0) (aP A 0 0 0)))]) dX10_secondOf_57 lX10_246 okX10_of vX10_of s158 (by decide) rfl rfl rfl (Nat.le_of_ble_eq_true rfl) ⟨Nat.le_of_ble_eq_true rfl, Nat.le_of_ble_eq_true rfl⟩ CR.f (c_X10_of hG (by omega) (by decide) (hM.t ht (by decide))) (fun vq5 gq5 eq5 => ?_)
      obtain ⟨rfl, fq5⟩ := eq5
      rw [fq5]
      refine J_i2lN dX10_secondOf_60 (by omega) ?_
      refine J_aload_n dX10_secondOf_61 rfl ?_
      refine J_getR (r := some 175) dX10_secondOf_62 fX10_65 s158 (fun _ => rfl) (g158_34 hG) ?_
      refine J_iconstN (n := 1) dX10_secondOf_65 ?_
      refine J_laldN dX10_secondOf_66 s175 (by decide) (by omega) ?_
      refine J_cvL (z2.2.1) ?_
      refine J_lmul dX10_secondOf_67 ?_
      refine J_lsub dX10_secondOf_68 ?_
      refine J_aload_n dX10_secondOf_69 rfl ?_
      refine J_iload_n dX10_secondOf_70 rfl ?_
      refine J_iconstN (n := 1) dX10_secondOf_71 ?_
      refine J_cVI (ci := 10) (c := 158) (as := [pI (nI t), pI (nI 1)]) (st := [pL (((lN (aP A 2 t 2)) * (MW (cgv (aU A t 0) (aU A t 1) (aV A t i1)) (aU A t 0) (aU A t 1) (aP A 2 t 5) (aV A t i1) 0 0 0 0 q (aP A 0 0 0) (aP A 0 0 0))) - ((lN (aP A 2 t 3)) * (MW (clk (aV A t i1)) (aU A t 0) (aU A t 1) (aP A 2 t 5) (aV A t i1) 0 0 0 0 q (aP A 0 0 0) (aP A 0 0 0))))]) dX10_secondOf_72 lX10_246 okX10_of vX10_of s158 (by decide) rfl rfl rfl (Nat.le_of_ble_eq_true rfl) ⟨Nat.le_of_ble_eq_true rfl, Nat.le_of_ble_eq_true rfl⟩ CR.f (c_X10_of hG (by omega) (by decide) (hM.t ht (by decide))) (fun vq6 gq6 eq6 => ?_)
      obtain ⟨rfl, fq6⟩ := eq6
      rw [fq6]
      refine J_iload_n dX10_secondOf_75 rfl ?_
      refine J_imulN dX10_secondOf_76 ?_
      refine J_i2lN dX10_secondOf_77 (mul_lt31 1000 1000 (by omega) (by omega) (by decide)) ?_
      refine J_aload_n dX10_secondOf_78 rfl ?_
      refine J_aload_n dX10_secondOf_79 rfl ?_
      refine J_getR (r := some 160) dX10_secondOf_80 fX10_17 s158 (fun _ => rfl) (g158_12 hG) ?_
      refine J_iconstN (n := 0) dX10_secondOf_83 ?_
      refine J_ialdN dX10_secondOf_84 s160 (by decide) (by omega) ?_
      refine J_cvI ((hM.nm (k := 0) (by decide))) ?_
      refine J_cVL (ci := 10) (c := 158) (as := [pI (nI (aP A 0 0 0))]) (st := [pL (lN (aP A 2 t 1 * q)), pL (((lN (aP A 2 t 2)) * (MW (cgv (aU A t 0) (aU A t 1) (aV A t i1)) (aU A t 0) (aU A t 1) (aP A 2 t 5) (aV A t i1) 0 0 0 0 q (aP A 0 0 0) (aP A 0 0 0))) - ((lN (aP A 2 t 3)) * (MW (clk (aV A t i1)) (aU A t 0) (aU A t 1) (aP A 2 t 5) (aV A t i1) 0 0 0 0 q (aP A 0 0 0) (aP A 0 0 0))))]) dX10_secondOf_85 lX10_290 okX10_tens vX10_tens s158 (by decide) rfl rfl rfl (Nat.le_of_ble_eq_true rfl) ⟨Nat.le_of_ble_eq_true rfl, Nat.le_of_ble_eq_true rfl⟩ CR.f (c_X10_tens (by omega)) (fun vq7 gq7 eq7 => ?_)
      obtain ⟨rfl, fq7⟩ := eq7
      rw [fq7]
      refine J_lmul dX10_secondOf_88 ?_
      refine J_lsub dX10_secondOf_89 ?_
      refine J_ldc2 dX10_secondOf_90 kX10_281 ?_
      refine J_lmul dX10_secondOf_93 ?_
      refine J_lload dX10_secondOf_94 rfl ?_
      refine J_lmul dX10_secondOf_96 ?_
      refine J_cvL (y := sdV (aP A 2 t) (aU A t 0) (aU A t 1) (aV A t i1) b q (aP A 0 0 0) (vaR A t 0) 0) (by unfold sdV; show _ = _ + 0; rw [Int64.add_zero]) ?_
      refine J_lstore (L' := [some (pR (some 158)), some (pI (nI t)), some (pI (nI q)), some (pI (nI b)), some (pL (tenL (aP A 0 0 0 + 1))), none, some (pL (sL64 (fun w => lN (aP A 1 w 0) * sdV (aP A 2 t) (aU A t 0) (aU A t 1) (aV A t w) b q (aP A 0 0 0) (vaR A t 0) 41) i1)), none, some (pI (nI i1)), some (pL (sdV (aP A 2 t) (aU A t 0) (aU A t 1) (aV A t i1) b q (aP A 0 0 0) (vaR A t 0) 0)), none, none]) dX10_secondOf_97 (by decide) rfl ?_
      refine J_iconstN (n := 0) dX10_secondOf_99 ?_
      refine J_istore (L' := [some (pR (some 158)), some (pI (nI t)), some (pI (nI q)), some (pI (nI b)), some (pL (tenL (aP A 0 0 0 + 1))), none, some (pL (sL64 (fun w => lN (aP A 1 w 0) * sdV (aP A 2 t) (aU A t 0) (aU A t 1) (aV A t w) b q (aP A 0 0 0) (vaR A t 0) 41) i1)), none, some (pI (nI i1)), some (pL (sdV (aP A 2 t) (aU A t 0) (aU A t 1) (aV A t i1) b q (aP A 0 0 0) (vaR A t 0) 0)), none, some (pI (nI 0))]) dX10_secondOf_100 (by decide) rfl ?_
      refine J_L (L' := [some (pR (some 158)), some (pI (nI t)), some (pI (nI q)), some (pI (nI b)), some (pL (tenL (aP A 0 0 0 + 1))), none, some (pL (sL64 (fun w => lN (aP A 1 w 0) * sdV (aP A 2 t) (aU A t 0) (aU A t 1) (aV A t w) b q (aP A 0 0 0) (vaR A t 0) 41) i1)), none, some (pI (nI i1)), some (pL (sdV (aP A 2 t) (aU A t 0) (aU A t 1) (aV A t i1) b q (aP A 0 0 0) (vaR A t 0) 0)), none, some (pI (nI 0))]) rfl ?_
      refine J_for (L := fun i2 => [some (pR (some 158)), some (pI (nI t)), some (pI (nI q)), some (pI (nI b)), some (pL (tenL (aP A 0 0 0 + 1))), none, some (pL (sL64 (fun w => lN (aP A 1 w 0) * sdV (aP A 2 t) (aU A t 0) (aU A t 1) (aV A t w) b q (aP A 0 0 0) (vaR A t 0) 41) i1)), none, some (pI (nI i1)), some (pL (sdV (aP A 2 t) (aU A t 0) (aU A t 1) (aV A t i1) b q (aP A 0 0 0) (vaR A t 0) i2)), none, some (pI (nI i2))]) (hf := fun i2 => g2) (e := 41) ?_ (fun i2 hi2 ih2 => ?_) 0 (by omega)
      · show J _ _ _ _ _ [some (pR (some 158)), some (pI (nI t)), some (pI (nI q)), some (pI (nI b)), some (pL (tenL (aP A 0 0 0 + 1))), none, some (pL (sL64 (fun w => lN (aP A 1 w 0) * sdV (aP A 2 t) (aU A t 0) (aU A t 1) (aV A t w) b q (aP A 0 0 0) (vaR A t 0) 41) i1)), none, some (pI (nI i1)), some (pL (sdV (aP A 2 t) (aU A t 0) (aU A t 1) (aV A t i1) b q (aP A 0 0 0) (vaR A t 0) 41)), none, some (pI (nI 41))] _ _ (g2)
        refine J_iload dX10_secondOf_102 rfl ?_
        refine J_bipush (x := nI 40) dX10_secondOf_104 (by decide) ?_
        refine J_icmp_gtN dX10_secondOf_106 (by decide) (by decide) (fun c0 => ?_) (fun c0 => absurd c0 (by decide))
        refine J_lload dX10_secondOf_157 rfl ?_
        refine J_aload_n dX10_secondOf_159 rfl ?_
        refine J_iload dX10_secondOf_160 rfl ?_
        refine J_cVI (ci := 10) (c := 158) (as := [pI (nI i1)]) (st := [pL (sL64 (fun w => lN (aP A 1 w 0) * sdV (aP A 2 t) (aU A t 0) (aU A t 1) (aV A t w) b q (aP A 0 0 0) (vaR A t 0) 41) i1)]) dX10_secondOf_162 lX10_240 okX10_weight vX10_weight s158 (by decide) rfl rfl rfl (Nat.le_of_ble_eq_true rfl) ⟨Nat.le_of_ble_eq_true rfl, Nat.le_of_ble_eq_true rfl⟩ CR.f (c_X10_weight hG (by omega) (hM.x hi1)) (fun vq8 gq8 eq8 => ?_)
        obtain ⟨rfl, fq8⟩ := eq8
        rw [fq8]
        refine J_i2lN dX10_secondOf_165 (by omega) ?_
        refine J_lload dX10_secondOf_166 rfl ?_
        refine J_lmul dX10_secondOf_168 ?_
        refine J_ladd dX10_secondOf_169 ?_
        refine J_lstore (L' := [some (pR (some 158)), some (pI (nI t)), some (pI (nI q)), some (pI (nI b)), some (pL (tenL (aP A 0 0 0 + 1))), none, some (pL ((sL64 (fun w => lN (aP A 1 w 0) * sdV (aP A 2 t) (aU A t 0) (aU A t 1) (aV A t w) b q (aP A 0 0 0) (vaR A t 0) 41) i1) + ((lN (aP A 1 i1 0)) * (sdV (aP A 2 t) (aU A t 0) (aU A t 1) (aV A t i1) b q (aP A 0 0 0) (vaR A t 0) 41)))), none, some (pI (nI i1)), some (pL (sdV (aP A 2 t) (aU A t 0) (aU A t 1) (aV A t i1) b q (aP A 0 0 0) (vaR A t 0) 41)), none, some (pI (nI 41))]) dX10_secondOf_170 (by decide) rfl ?_
        refine J_iincN (n := 1) (L' := [some (pR (some 158)), some (pI (nI t)), some (pI (nI q)), some (pI (nI b)), some (pL (tenL (aP A 0 0 0 + 1))), none, some (pL ((sL64 (fun w => lN (aP A 1 w 0) * sdV (aP A 2 t) (aU A t 0) (aU A t 1) (aV A t w) b q (aP A 0 0 0) (vaR A t 0) 41) i1) + ((lN (aP A 1 i1 0)) * (sdV (aP A 2 t) (aU A t 0) (aU A t 1) (aV A t i1) b q (aP A 0 0 0) (vaR A t 0) 41)))), none, some (pI (nI (i1 + 1))), some (pL (sdV (aP A 2 t) (aU A t 0) (aU A t 1) (aV A t i1) b q (aP A 0 0 0) (vaR A t 0) 41)), none, some (pI (nI 41))]) dX10_secondOf_172 rfl (by decide) rfl ?_
        refine J_goto dX10_secondOf_175 ?_
        refine J_drop (L' := [some (pR (some 158)), some (pI (nI t)), some (pI (nI q)), some (pI (nI b)), some (pL (tenL (aP A 0 0 0 + 1))), none, some (pL ((sL64 (fun w => lN (aP A 1 w 0) * sdV (aP A 2 t) (aU A t 0) (aU A t 1) (aV A t w) b q (aP A 0 0 0) (vaR A t 0) 41) i1) + ((lN (aP A 1 i1 0)) * (sdV (aP A 2 t) (aU A t 0) (aU A t 1) (aV A t i1) b q (aP A 0 0 0) (vaR A t 0) 41)))), none, some (pI (nI (i1 + 1))), none, none, some (pI (nI 41))]) 9 rfl ?_
        refine J_drop (L' := [some (pR (some 158)), some (pI (nI t)), some (pI (nI q)), some (pI (nI b)), some (pL (tenL (aP A 0 0 0 + 1))), none, some (pL ((sL64 (fun w => lN (aP A 1 w 0) * sdV (aP A 2 t) (aU A t 0) (aU A t 1) (aV A t w) b q (aP A 0 0 0) (vaR A t 0) 41) i1) + ((lN (aP A 1 i1 0)) * (sdV (aP A 2 t) (aU A t 0) (aU A t 1) (aV A t i1) b q (aP A 0 0 0) (vaR A t 0) 41)))), none, some (pI (nI (i1 + 1))), none, none, none]) 11 rfl ?_
        refine J_L (L' := [some (pR (some 158)), some (pI (nI t)), some (pI (nI q)), some (pI (nI b)), some (pL (tenL (aP A 0 0 0 + 1))), none, some (pL (sL64 (fun w => lN (aP A 1 w 0) * sdV (aP A 2 t) (aU A t 0) (aU A t 1) (aV A t w) b q (aP A 0 0 0) (vaR A t 0) 41) (i1 + 1))), none, some (pI (nI (i1 + 1))), none, none, none]) rfl ?_
        exact ih1 () _ hQ
      · show J _ _ _ _ _ [some (pR (some 158)), some (pI (nI t)), some (pI (nI q)), some (pI (nI b)), some (pL (tenL (aP A 0 0 0 + 1))), none, some (pL (sL64 (fun w => lN (aP A 1 w 0) * sdV (aP A 2 t) (aU A t 0) (aU A t 1) (aV A t w) b q (aP A 0 0 0) (vaR A t 0) 41) i1)), none, some (pI (nI i1)), some (pL (sdV (aP A 2 t) (aU A t 0) (aU A t 1) (aV A t i1) b q (aP A 0 0 0) (vaR A t 0) i2)), none, some (pI (nI i2))] _ _ (g2)
        refine J_iload dX10_secondOf_102 rfl ?_
        refine J_bipush (x := nI 40) dX10_secondOf_104 (by decide) ?_
        refine J_icmp_gtN dX10_secondOf_106 (by omega) (by omega) (fun c9 => ?_) (fun c9 => ?_)
        · exact (show False by omega).elim
        · refine J_lload dX10_secondOf_109 rfl ?_
          refine J_aload_n dX10_secondOf_111 rfl ?_
          refine J_getR (r := some 173) dX10_secondOf_112 fX10_59 s158 (fun _ => rfl) (g158_32 hG) ?_
          refine J_iload dX10_secondOf_115 rfl ?_
          refine J_laldN dX10_secondOf_117 s173 (by decide) (by omega) ?_
          refine J_cvL ((z1 i2 (by omega))) ?_
          refine J_bipush (x := nI 10) dX10_secondOf_118 (by decide) ?_
          refine J_iload_n dX10_secondOf_120 rfl ?_
          refine J_isubN dX10_secondOf_121 (by omega) ?_
          refine J_aload_n dX10_secondOf_122 rfl ?_
          refine J_iload_n dX10_secondOf_123 rfl ?_
          refine J_iconstN (n := 4) dX10_secondOf_124 ?_
          refine J_cVI (ci := 10) (c := 158) (as := [pI (nI t), pI (nI 4)]) (st := [pI (nI (10 - b)), pL (lN (DW (aU A t 0) (aU A t 1) (aP A 2 t 5) (aV A t i1) 0 0 0 0 q (aP A 0 0 0) i2)), pL (sdV (aP A 2 t) (aU A t 0) (aU A t 1) (aV A t i1) b q (aP A 0 0 0) (vaR A t 0) i2)]) dX10_secondOf_125 lX10_246 okX10_of vX10_of s158 (by decide) rfl rfl rfl (Nat.le_of_ble_eq_true rfl) ⟨Nat.le_of_ble_eq_true rfl, Nat.le_of_ble_eq_true rfl⟩ CR.f (c_X10_of hG (by omega) (by decide) (hM.t ht (by decide))) (fun vq10 gq10 eq10 => ?_)
          obtain ⟨rfl, fq10⟩ := eq10
          rw [fq10]
          refine J_imulN dX10_secondOf_128 ?_
          refine J_iload dX10_secondOf_129 rfl ?_
          refine J_imulN dX10_secondOf_131 ?_
          refine J_i2lN dX10_secondOf_132 (mul_lt31 1000 1000 (by omega) (by omega) (by decide)) ?_
          refine J_lload dX10_secondOf_133 rfl ?_
          refine J_lmul dX10_secondOf_135 ?_
          refine J_iload_n dX10_secondOf_136 rfl ?_
          refine J_i2lN dX10_secondOf_137 (by omega) ?_
          refine J_aload_n dX10_secondOf_138 rfl ?_
          refine J_getR (r := some 183) dX10_secondOf_139 fX10_92 s158 (fun _ => rfl) (g158_47 hG) ?_
          refine J_iload dX10_secondOf_142 rfl ?_
          refine J_laldN dX10_secondOf_144 s183 (by decide) (by omega) ?_
          refine J_cvL ((hA i2 (by omega))) ?_
          refine J_lmul dX10_secondOf_145 ?_
          refine J_ladd dX10_secondOf_146 ?_
          refine J_lmul dX10_secondOf_147 ?_
          refine J_ladd dX10_secondOf_148 ?_
          refine J_cvL (y := sdV (aP A 2 t) (aU A t 0) (aU A t 1) (aV A t i1) b q (aP A 0 0 0) (vaR A t 0) (i2 + 1)) sdV_1 ?_
          refine J_lstore (L' := [some (pR (some 158)), some (pI (nI t)), some (pI (nI q)), some (pI (nI b)), some (pL (tenL (aP A 0 0 0 + 1))), none, some (pL (sL64 (fun w => lN (aP A 1 w 0) * sdV (aP A 2 t) (aU A t 0) (aU A t 1) (aV A t w) b q (aP A 0 0 0) (vaR A t 0) 41) i1)), none, some (pI (nI i1)), some (pL (sdV (aP A 2 t) (aU A t 0) (aU A t 1) (aV A t i1) b q (aP A 0 0 0) (vaR A t 0) (i2 + 1))), none, some (pI (nI i2))]) dX10_secondOf_149 (by decide) rfl ?_
          refine J_iincN (n := 1) (L' := [some (pR (some 158)), some (pI (nI t)), some (pI (nI q)), some (pI (nI b)), some (pL (tenL (aP A 0 0 0 + 1))), none, some (pL (sL64 (fun w => lN (aP A 1 w 0) * sdV (aP A 2 t) (aU A t 0) (aU A t 1) (aV A t w) b q (aP A 0 0 0) (vaR A t 0) 41) i1)), none, some (pI (nI i1)), some (pL (sdV (aP A 2 t) (aU A t 0) (aU A t 1) (aV A t i1) b q (aP A 0 0 0) (vaR A t 0) (i2 + 1))), none, some (pI (nI (i2 + 1)))]) dX10_secondOf_151 rfl (by decide) rfl ?_
          refine J_goto dX10_secondOf_154 ?_
          refine J_L (L' := [some (pR (some 158)), some (pI (nI t)), some (pI (nI q)), some (pI (nI b)), some (pL (tenL (aP A 0 0 0 + 1))), none, some (pL (sL64 (fun w => lN (aP A 1 w 0) * sdV (aP A 2 t) (aU A t 0) (aU A t 1) (aV A t w) b q (aP A 0 0 0) (vaR A t 0) 41) i1)), none, some (pI (nI i1)), some (pL (sdV (aP A 2 t) (aU A t 0) (aU A t 1) (aV A t i1) b q (aP A 0 0 0) (vaR A t 0) (i2 + 1))), none, some (pI (nI (i2 + 1)))]) rfl ?_
          exact ih2
theorem c_X10_second_in {h : PH} {A : AS} {t q b : Nat} (hG : GR h.2.2) (hM : MI h A) (hW : WF A) (ht : t < aP A 0 3 0) (hq : q < 41) (hb : b < 11) (hn : 0 < aP A 0 2 0) : CtL mX10_second h [pR (some 158), pI (nI t), pI (nI q), pI (nI b)] (fun v h' => v = sdF A t b q ∧ MP h h' A) := by
  have bN := hW.1
  have bk := hW.wk
  have bc := hW.cs
  have bw := hW.wn
  have bt := hW.tn
  have bf := hW.fn
  have hQ : MFr h h := MFr.rf
  refine Ct.of (L := [some (pR (some 158)), some (pI (nI t)), some (pI (nI q)), some (pI (nI b))]) rfl rfl (Nat.le_of_ble_eq_true rfl) rfl ?_
  refine J_aload_n dX10_second_0 rfl ?_
  refine J_iload_n dX10_second_1 rfl ?_
  refine J_cVI (ci := 10) (c := 158) (as := [pI (nI t)]) (st := []) dX10_second_2 lX10_243 okX10_isThing vX10_isThing s158 (by decide) rfl rfl rfl (Nat.le_of_ble_eq_true rfl) ⟨Nat.le_of_ble_eq_true rfl, Nat.le_of_ble_eq_true rfl⟩ CR.f (c_X10_isThing hG (hM.nm (by decide)) (by omega)) (fun vq1 gq1 eq1 => ?_)
  obtain ⟨rfl, fq1⟩ := eq1
  rw [fq1]
  refine J_cvI (bI_congr (inR_nI_iff (by omega))) ?_
  refine J_if_eqB dX10_second_5 (fun c2 => ?_) (fun c2 => ?_)
  · exact (show False by omega).elim
  · refine J_iload_n dX10_second_8 rfl ?_
    refine J_cSI (as := [pI (nI q)]) (st := []) dX10_second_9 lX10_303 okX10_isOrder sX10_isOrder rfl rfl (Nat.le_of_ble_eq_true rfl) ⟨Nat.le_of_ble_eq_true rfl, Nat.le_of_ble_eq_true rfl⟩ CR.f (c_X10_isOrder) (fun vq3 gq3 eq3 => ?_)
    obtain ⟨rfl, fq3⟩ := eq3
    rw [fq3]
    refine J_cvI (bI_congr (inR_nI_iff (by omega))) ?_
    refine J_if_eqB dX10_second_12 (fun c4 => ?_) (fun c4 => ?_)
    · exact (show False by omega).elim
    · refine J_iload_n dX10_second_15 rfl ?_
      refine J_iconstN (n := 0) dX10_second_16 ?_
      refine J_bipush (x := nI 10) dX10_second_17 (by decide) ?_
      refine J_cSI (as := [pI (nI b), pI (nI 0), pI (nI 10)]) (st := []) dX10_second_19 lX10_172 okX10_in sX10_in rfl rfl (Nat.le_of_ble_eq_true rfl) ⟨Nat.le_of_ble_eq_true rfl, Nat.le_of_ble_eq_true rfl⟩ CR.f (c_X10_in) (fun vq5 gq5 eq5 => ?_)
      obtain ⟨rfl, fq5⟩ := eq5
      rw [fq5]
      refine J_cvI (bI_congr (inN (by omega) (by omega) (by omega))) ?_
      refine J_if_eqB dX10_second_22 (fun c6 => ?_) (fun c6 => ?_)
      · exact (show False by omega).elim
      · refine J_aload_n dX10_second_25 rfl ?_
        refine J_cVI (ci := 10) (c := 158) (as := []) (st := []) dX10_second_26 lX10_234 okX10_hasWinters vX10_hasWinters s158 (by decide) rfl rfl rfl (Nat.le_of_ble_eq_true rfl) ⟨Nat.le_of_ble_eq_true rfl, Nat.le_of_ble_eq_true rfl⟩ CR.f (c_X10_hasWinters hG (hM.nm (by decide)) (by omega)) (fun vq7 gq7 eq7 => ?_)
        obtain ⟨rfl, fq7⟩ := eq7
        rw [fq7]
        refine J_if_neB dX10_second_29 (fun c8 => ?_) (fun c8 => ?_)
        · refine J_aload_n dX10_second_36 rfl ?_
          refine J_iload_n dX10_second_37 rfl ?_
          refine J_cVV (ci := 10) (c := 158) (as := [pI (nI t)]) (st := []) dX10_second_38 lX10_368 okX10_makeAnother vX10_makeAnother s158 (by decide) rfl rfl rfl (Nat.le_of_ble_eq_true rfl) ⟨Nat.le_of_ble_eq_true rfl, Nat.le_of_ble_eq_true rfl⟩ CR.f (c_X10_makeAnother hG hM hW ht) (fun g9 eg9 => ?_)
          obtain ⟨hA, f1⟩ := eg9
          have hG := f1.g hG
          have hM := hM.mq f1
          have hQ := hQ.tr f1
          refine J_aload_n dX10_second_41 rfl ?_
          refine J_iload_n dX10_second_42 rfl ?_
          refine J_iload_n dX10_second_43 rfl ?_
          refine J_iload_n dX10_second_44 rfl ?_
          refine J_cVL (ci := 10) (c := 158) (as := [pI (nI t), pI (nI q), pI (nI b)]) (st := []) dX10_second_45 lX10_371 okX10_secondOf vX10_secondOf s158 (by decide) rfl rfl rfl (Nat.le_of_ble_eq_true rfl) ⟨Nat.le_of_ble_eq_true rfl, Nat.le_of_ble_eq_true rfl⟩ CR.f (c_X10_secondOf hG hM hW ht (by omega) hb hn hA) (fun vg10 g10 eg10 => ?_)
          obtain ⟨rfl, f1⟩ := eg10
          have hG := f1.g hG
          have hM := hM.mq (.of f1)
          have hQ := hQ.tr (.of f1)
          have hA := hA.fg f1
          exact J_retL dX10_second_48 rfl ⟨rfl, hM, hQ.fr⟩
        · exact (show False by omega).elim
theorem c_X10_second_no {h : PH} {A : AS} {t q b : Int32} (hG : GR h.2.2) (hM : MI h A) (hW : WF A) (hno : ¬ okD (aP A) t q b) : CtL mX10_second h [pR (some 158), pI t, pI q, pI b] (fun v h' => v = -9000000000000000000 ∧ MP h h' A) := by
  have bN := hW.1
  have bk := hW.wk
  have bc := hW.cs
  have bw := hW.wn
  have bt := hW.tn
  have bf := hW.fn
  refine Ct.of (L := [some (pR (some 158)), some (pI t), some (pI q), some (pI b)]) rfl rfl (Nat.le_of_ble_eq_true rfl) rfl ?_
  refine J_aload_n dX10_second_0 rfl ?_
  refine J_iload_n dX10_second_1 rfl ?_
  refine J_cVI (ci := 10) (c := 158) (as := [pI t]) (st := []) dX10_second_2 lX10_243 okX10_isThing vX10_isThing s158 (by decide) rfl rfl rfl (Nat.le_of_ble_eq_true rfl) ⟨Nat.le_of_ble_eq_true rfl, Nat.le_of_ble_eq_true rfl⟩ CR.f (c_X10_isThing hG (hM.nm (by decide)) (by omega)) (fun vq1 gq1 eq1 => ?_)
  obtain ⟨rfl, fq1⟩ := eq1
  rw [fq1]
  refine J_if_eqB dX10_second_5 (fun d1 => ?_) (fun d1 => ?_)
  · refine J_ldc2 dX10_second_32 kX10_309 ?_
    exact J_retL dX10_second_35 rfl ⟨rfl, hM, Fr.rf⟩
  · refine J_iload_n dX10_second_8 rfl ?_
    refine J_cSI (as := [pI q]) (st := []) dX10_second_9 lX10_303 okX10_isOrder sX10_isOrder rfl rfl (Nat.le_of_ble_eq_true rfl) ⟨Nat.le_of_ble_eq_true rfl, Nat.le_of_ble_eq_true rfl⟩ CR.f (c_X10_isOrder) (fun vq3 gq3 eq3 => ?_)
    obtain ⟨rfl, fq3⟩ := eq3
    rw [fq3]
    refine J_if_eqB dX10_second_12 (fun d2 => ?_) (fun d2 => ?_)
    · refine J_ldc2 dX10_second_32 kX10_309 ?_
      exact J_retL dX10_second_35 rfl ⟨rfl, hM, Fr.rf⟩
    · refine J_iload_n dX10_second_15 rfl ?_
      refine J_iconstN (n := 0) dX10_second_16 ?_
      refine J_bipush (x := nI 10) dX10_second_17 (by decide) ?_
      refine J_cSI (as := [pI b, pI (nI 0), pI (nI 10)]) (st := []) dX10_second_19 lX10_172 okX10_in sX10_in rfl rfl (Nat.le_of_ble_eq_true rfl) ⟨Nat.le_of_ble_eq_true rfl, Nat.le_of_ble_eq_true rfl⟩ CR.f (c_X10_in) (fun vq5 gq5 eq5 => ?_)
      obtain ⟨rfl, fq5⟩ := eq5
      rw [fq5]
      refine J_cvI (bI_congr (in_iffN (b := 10) (by decide))) ?_
      refine J_if_eqB dX10_second_22 (fun d3 => ?_) (fun d3 => ?_)
      · refine J_ldc2 dX10_second_32 kX10_309 ?_
        exact J_retL dX10_second_35 rfl ⟨rfl, hM, Fr.rf⟩
      · refine J_aload_n dX10_second_25 rfl ?_
        refine J_cVI (ci := 10) (c := 158) (as := []) (st := []) dX10_second_26 lX10_234 okX10_hasWinters vX10_hasWinters s158 (by decide) rfl rfl rfl (Nat.le_of_ble_eq_true rfl) ⟨Nat.le_of_ble_eq_true rfl, Nat.le_of_ble_eq_true rfl⟩ CR.f (c_X10_hasWinters hG (hM.nm (by decide)) (by omega)) (fun vq7 gq7 eq7 => ?_)
        obtain ⟨rfl, fq7⟩ := eq7
        rw [fq7]
        refine J_if_neB dX10_second_29 (fun d4 => ?_) (fun d4 => ?_)
        · exact absurd ⟨d1, d2, d3, d4⟩ hno
        · refine J_ldc2 dX10_second_32 kX10_309 ?_
          exact J_retL dX10_second_35 rfl ⟨rfl, hM, Fr.rf⟩
theorem c_X10_second {h : PH} {A : AS} {t q b : Int32} (hG : GR h.2.2) (hM : MI h A) (hW : WF A) : CtL mX10_second h [pR (some 158), pI t, pI q, pI b] (fun v h' => v = secondA A t q b ∧ MP h h' A) := by
  by_cases hok : okD (aP A) t q b
  · obtain ⟨h1, h2, h3, h4⟩ := id hok
    obtain ⟨t, ht, rfl⟩ := inR_of h1
    obtain ⟨q, hq, rfl⟩ := inR_of h2
    obtain ⟨b, hb, rfl⟩ := inR_of h3
    have bt := hW.tn
    rw [secondA, if_pos hok, cl, cl, cl, nI_clamp (by omega), nI_clamp (by omega), nI_clamp (by omega)]
    exact c_X10_second_in hG hM hW ht hq hb h4
  · rw [secondA, if_neg hok]
    exact c_X10_second_no hG hM hW hok
theorem c_X10_forTwo_in {h : PH} {A : AS} {t b : Nat} (hG : GR h.2.2) (hM : MI h A) (hW : WF A) (ht : t < aP A 0 3 0) (hb : b < 11) (hn : 0 < aP A 0 2 0) : CtI mX10_forTwo h [pR (some 158), pI (nI t), pI (nI b)] (fun v h' => v = nI (bst (sdF A t b) 40) ∧ MP h h' A) := by
  have bN := hW.1
  have bk := hW.wk
  have bc := hW.cs
  have bw := hW.wn
  have bt := hW.tn
  have bf := hW.fn
  have hQ : MFr h h := MFr.rf
  have hM0 := hM
  have hG0 := hG
  refine Ct.of (L := [some (pR (some 158)), some (pI (nI t)), some (pI (nI b)), none, none, none, none, none, none]) rfl rfl (Nat.le_of_ble_eq_true rfl) rfl ?_
  refine J_aload_n dX10_forTwo_0 rfl ?_
  refine J_iload_n dX10_forTwo_1 rfl ?_
  refine J_cVI (ci := 10) (c := 158) (as := [pI (nI t)]) (st := []) dX10_forTwo_2 lX10_243 okX10_isThing vX10_isThing s158 (by decide) rfl rfl rfl (Nat.le_of_ble_eq_true rfl) ⟨Nat.le_of_ble_eq_true rfl, Nat.le_of_ble_eq_true rfl⟩ CR.f (c_X10_isThing hG (hM.nm (by decide)) (by omega)) (fun vq1 gq1 eq1 => ?_)
  obtain ⟨rfl, fq1⟩ := eq1
  rw [fq1]
  refine J_cvI (bI_congr (inR_nI_iff (by omega))) ?_
  refine J_if_eqB dX10_forTwo_5 (fun c2 => ?_) (fun c2 => ?_)
  · exact (show False by omega).elim
  · refine J_iload_n dX10_forTwo_8 rfl ?_
    refine J_iconstN (n := 0) dX10_forTwo_9 ?_
    refine J_bipush (x := nI 10) dX10_forTwo_10 (by decide) ?_
    refine J_cSI (as := [pI (nI b), pI (nI 0), pI (nI 10)]) (st := []) dX10_forTwo_12 lX10_172 okX10_in sX10_in rfl rfl (Nat.le_of_ble_eq_true rfl) ⟨Nat.le_of_ble_eq_true rfl, Nat.le_of_ble_eq_true rfl⟩ CR.f (c_X10_in) (fun vq3 gq3 eq3 => ?_)
    obtain ⟨rfl, fq3⟩ := eq3
    rw [fq3]
    refine J_cvI (bI_congr (inN (by omega) (by omega) (by omega))) ?_
    refine J_if_neB dX10_forTwo_15 (fun c4 => ?_) (fun c4 => ?_)
    · refine J_aload_n dX10_forTwo_21 rfl ?_
      refine J_cVI (ci := 10) (c := 158) (as := []) (st := []) dX10_forTwo_22 lX10_234 okX10_hasWinters vX10_hasWinters s158 (by decide) rfl rfl rfl (Nat.le_of_ble_eq_true rfl) ⟨Nat.le_of_ble_eq_true rfl, Nat.le_of_ble_eq_true rfl⟩ CR.f (c_X10_hasWinters hG (hM.nm (by decide)) (by omega)) (fun vq5 gq5 eq5 => ?_)
      obtain ⟨rfl, fq5⟩ := eq5
      rw [fq5]
      refine J_if_neB dX10_forTwo_25 (fun c6 => ?_) (fun c6 => ?_)
      · refine J_aload_n dX10_forTwo_31 rfl ?_
        refine J_iload_n dX10_forTwo_32 rfl ?_
        refine J_cVV (ci := 10) (c := 158) (as := [pI (nI t)]) (st := []) dX10_forTwo_33 lX10_368 okX10_makeAnother vX10_makeAnother s158 (by decide) rfl rfl rfl (Nat.le_of_ble_eq_true rfl) ⟨Nat.le_of_ble_eq_true rfl, Nat.le_of_ble_eq_true rfl⟩ CR.f (c_X10_makeAnother hG hM hW ht) (fun g7 eg7 => ?_)
        obtain ⟨hA, f1⟩ := eg7
        have hG := f1.g hG
        have hM := hM.mq f1
        have hQ := hQ.tr f1
        refine J_iconst (x := -1) dX10_forTwo_36 (by decide) ?_
        refine J_istore_n (L' := [some (pR (some 158)), some (pI (nI t)), some (pI (nI b)), some (pI ((-1))), none, none, none, none, none]) dX10_forTwo_37 (by decide) rfl ?_
        refine J_lconst (x := 0) dX10_forTwo_38 rfl ?_
        refine J_lstore (L' := [some (pR (some 158)), some (pI (nI t)), some (pI (nI b)), some (pI ((-1))), some (pL 0), none, none, none, none]) dX10_forTwo_39 (by decide) rfl ?_
        refine J_iconstN (n := 0) dX10_forTwo_41 ?_
        refine J_istore (L' := [some (pR (some 158)), some (pI (nI t)), some (pI (nI b)), some (pI ((-1))), some (pL 0), none, some (pI (nI 0)), none, none]) dX10_forTwo_42 (by decide) rfl ?_
        refine J_L (L' := [some (pR (some 158)), some (pI (nI t)), some (pI (nI b)), some (pI (bsN (sdF A t b) 0)), some (pL (mst (sdF A t b) 0)), none, some (pI (nI 0)), none, none]) rfl ?_
        refine J_forI (α := Unit) (L := fun i1 aa1 => [some (pR (some 158)), some (pI (nI t)), some (pI (nI b)), some (pI (bsN (sdF A t b) i1)), some (pL (mst (sdF A t b) i1)), none, some (pI (nI i1)), none, none]) (fun i1 aa1 h1 => anA A t h1 ∧ MFr h h1) (e := 41) (fun aa1 h1 hI1 => ?_) (fun i1 aa1 h1 hi1 hI1 ih1 => ?_) 0 (()) _ (by omega) (⟨hA, hQ⟩)
        · show J _ _ _ _ _ [some (pR (some 158)), some (pI (nI t)), some (pI (nI b)), some (pI (bsN (sdF A t b) 41)), some (pL (mst (sdF A t b) 41)), none, some (pI (nI 41)), none, none] _ _ h1
          obtain ⟨hA, hQ⟩ := hI1
          have hM := hM0.mq hQ
          have hG := hQ.g hG0
          refine J_iload dX10_forTwo_44 rfl ?_
          refine J_bipush (x := nI 40) dX10_forTwo_46 (by decide) ?_
          refine J_icmp_gtN dX10_forTwo_48 (by decide) (by decide) (fun c0 => ?_) (fun c0 => absurd c0 (by decide))
          refine J_iload_n dX10_forTwo_90 rfl ?_
          exact J_retI dX10_forTwo_91 rfl ⟨bsN_1, hM, hQ.fr⟩
        · show J _ _ _ _ _ [some (pR (some 158)), some (pI (nI t)), some (pI (nI b)), some (pI (bsN (sdF A t b) i1)), some (pL (mst (sdF A t b) i1)), none, some (pI (nI i1)), none, none] _ _ h1
          obtain ⟨hA, hQ⟩ := hI1
          have hM := hM0.mq hQ
          have hG := hQ.g hG0
          refine J_iload dX10_forTwo_44 rfl ?_
          refine J_bipush (x := nI 40) dX10_forTwo_46 (by decide) ?_
          refine J_icmp_gtN dX10_forTwo_48 (by omega) (by omega) (fun c8 => ?_) (fun c8 => ?_)
          · exact (show False by omega).elim
          · refine J_aload_n dX10_forTwo_51 rfl ?_
            refine J_iload_n dX10_forTwo_52 rfl ?_
            refine J_iload dX10_forTwo_53 rfl ?_
            refine J_iload_n dX10_forTwo_55 rfl ?_
            refine J_cVL (ci := 10) (c := 158) (as := [pI (nI t), pI (nI i1), pI (nI b)]) (st := []) dX10_forTwo_56 lX10_371 okX10_secondOf vX10_secondOf s158 (by decide) rfl rfl rfl (Nat.le_of_ble_eq_true rfl) ⟨Nat.le_of_ble_eq_true rfl, Nat.le_of_ble_eq_true rfl⟩ CR.f (c_X10_secondOf hG hM hW ht (by omega) hb hn hA) (fun vg9 g9 eg9 => ?_)
            obtain ⟨rfl, f1⟩ := eg9
            have hG := f1.g hG
            have hM := hM.mq (.of f1)
            have hQ := hQ.tr (.of f1)
            have hA := hA.fg f1
            refine J_lstore (L' := [some (pR (some 158)), some (pI (nI t)), some (pI (nI b)), some (pI (bsN (sdF A t b) i1)), some (pL (mst (sdF A t b) i1)), none, some (pI (nI i1)), some (pL (sdF A t b i1)), none]) dX10_forTwo_59 (by decide) rfl ?_
            refine J_iload_n dX10_forTwo_61 rfl ?_
            refine J_iconst (x := -1) dX10_forTwo_62 (by decide) ?_
            refine J_icmp_eq dX10_forTwo_63 (fun k0 => ?_) (fun k0 => ?_)
            · refine J_iload dX10_forTwo_77 rfl ?_
              refine J_istore_n (L' := [some (pR (some 158)), some (pI (nI t)), some (pI (nI b)), some (pI (nI i1)), some (pL (mst (sdF A t b) i1)), none, some (pI (nI i1)), some (pL (sdF A t b i1)), none]) dX10_forTwo_79 (by decide) rfl ?_
              refine J_lload dX10_forTwo_80 rfl ?_
              refine J_lstore (L' := [some (pR (some 158)), some (pI (nI t)), some (pI (nI b)), some (pI (nI i1)), some (pL (sdF A t b i1)), none, some (pI (nI i1)), some (pL (sdF A t b i1)), none]) dX10_forTwo_82 (by decide) rfl ?_
              refine J_iincN (n := 1) (L' := [some (pR (some 158)), some (pI (nI t)), some (pI (nI b)), some (pI (nI i1)), some (pL (sdF A t b i1)), none, some (pI (nI (i1 + 1))), some (pL (sdF A t b i1)), none]) dX10_forTwo_84 rfl (by decide) rfl ?_
              refine J_goto dX10_forTwo_87 ?_
              refine J_drop (L' := [some (pR (some 158)), some (pI (nI t)), some (pI (nI b)), some (pI (nI i1)), some (pL (sdF A t b i1)), none, some (pI (nI (i1 + 1))), none, none]) 7 rfl ?_
              have K := ih1 () _ ⟨hA, hQ⟩
              rw [bsN_take (Or.inl ((bsN_m1 (by omega)).mp k0)), mst_take (Or.inl ((bsN_m1 (by omega)).mp k0))] at K
              exact K
            · refine J_lload dX10_forTwo_66 rfl ?_
              refine J_lload dX10_forTwo_68 rfl ?_
              refine J_lcmp dX10_forTwo_70 ?_
              refine J_lif_gt dX10_forTwo_71 (fun k1 => ?_) (fun k1 => ?_)
              · refine J_iload dX10_forTwo_77 rfl ?_
                refine J_istore_n (L' := [some (pR (some 158)), some (pI (nI t)), some (pI (nI b)), some (pI (nI i1)), some (pL (mst (sdF A t b) i1)), none, some (pI (nI i1)), some (pL (sdF A t b i1)), none]) dX10_forTwo_79 (by decide) rfl ?_
                refine J_lload dX10_forTwo_80 rfl ?_
                refine J_lstore (L' := [some (pR (some 158)), some (pI (nI t)), some (pI (nI b)), some (pI (nI i1)), some (pL (sdF A t b i1)), none, some (pI (nI i1)), some (pL (sdF A t b i1)), none]) dX10_forTwo_82 (by decide) rfl ?_
                refine J_iincN (n := 1) (L' := [some (pR (some 158)), some (pI (nI t)), some (pI (nI b)), some (pI (nI i1)), some (pL (sdF A t b i1)), none, some (pI (nI (i1 + 1))), some (pL (sdF A t b i1)), none]) dX10_forTwo_84 rfl (by decide) rfl ?_
                refine J_goto dX10_forTwo_87 ?_
                refine J_drop (L' := [some (pR (some 158)), some (pI (nI t)), some (pI (nI b)), some (pI (nI i1)), some (pL (sdF A t b i1)), none, some (pI (nI (i1 + 1))), none, none]) 7 rfl ?_
                have K := ih1 () _ ⟨hA, hQ⟩
                rw [bsN_take (Or.inr k1), mst_take (Or.inr k1)] at K
                exact K
              · refine J_goto dX10_forTwo_74 ?_
                refine J_iincN (n := 1) (L' := [some (pR (some 158)), some (pI (nI t)), some (pI (nI b)), some (pI (bsN (sdF A t b) i1)), some (pL (mst (sdF A t b) i1)), none, some (pI (nI (i1 + 1))), some (pL (sdF A t b i1)), none]) dX10_forTwo_84 rfl (by decide) rfl ?_
                refine J_goto dX10_forTwo_87 ?_
                refine J_drop (L' := [some (pR (some 158)), some (pI (nI t)), some (pI (nI b)), some (pI (bsN (sdF A t b) i1)), some (pL (mst (sdF A t b) i1)), none, some (pI (nI (i1 + 1))), none, none]) 7 rfl ?_
                have K := ih1 () _ ⟨hA, hQ⟩
                rw [bsN_keep (fun z => k0 ((bsN_m1 (by omega)).mpr z)) k1, mst_keep (fun z => k0 ((bsN_m1 (by omega)).mpr z)) k1] at K
                exact K
      · exact (show False by omega).elim
    · exact (show False by omega).elim
theorem c_X10_forTwo_no {h : PH} {A : AS} {t b : Int32} (hG : GR h.2.2) (hM : MI h A) (hW : WF A) (hno : ¬ ((inR t (aP A 0 3 0) ∧ inR b 11) ∧ 0 < aP A 0 2 0)) : CtI mX10_forTwo h [pR (some 158), pI t, pI b] (fun v h' => v = (if inR t (aP A 0 3 0) ∧ inR b 11 then -4 else -2) ∧ MP h h' A) := by
  have bN := hW.1
  have bk := hW.wk
  have bc := hW.cs
  have bw := hW.wn
  have bt := hW.tn
  have bf := hW.fn
  refine Ct.of (L := [some (pR (some 158)), some (pI t), some (pI b), none, none, none, none, none, none]) rfl rfl (Nat.le_of_ble_eq_true rfl) rfl ?_
  refine J_aload_n dX10_forTwo_0 rfl ?_
  refine J_iload_n dX10_forTwo_1 rfl ?_
  refine J_cVI (ci := 10) (c := 158) (as := [pI t]) (st := []) dX10_forTwo_2 lX10_243 okX10_isThing vX10_isThing s158 (by decide) rfl rfl rfl (Nat.le_of_ble_eq_true rfl) ⟨Nat.le_of_ble_eq_true rfl, Nat.le_of_ble_eq_true rfl⟩ CR.f (c_X10_isThing hG (hM.nm (by decide)) (by omega)) (fun vq1 gq1 eq1 => ?_)
  obtain ⟨rfl, fq1⟩ := eq1
  rw [fq1]
  refine J_if_eqB dX10_forTwo_5 (fun d1 => ?_) (fun d1 => ?_)
  · refine J_bipush (x := (-2)) dX10_forTwo_18 (by decide) ?_
    exact J_retI dX10_forTwo_20 rfl ⟨(if_neg (fun q => d1 q.1)).symm, hM, Fr.rf⟩
  · refine J_iload_n dX10_forTwo_8 rfl ?_
    refine J_iconstN (n := 0) dX10_forTwo_9 ?_
    refine J_bipush (x := nI 10) dX10_forTwo_10 (by decide) ?_
    refine J_cSI (as := [pI b, pI (nI 0), pI (nI 10)]) (st := []) dX10_forTwo_12 lX10_172 okX10_in sX10_in rfl rfl (Nat.le_of_ble_eq_true rfl) ⟨Nat.le_of_ble_eq_true rfl, Nat.le_of_ble_eq_true rfl⟩ CR.f (c_X10_in) (fun vq3 gq3 eq3 => ?_)
    obtain ⟨rfl, fq3⟩ := eq3
    rw [fq3]
    refine J_cvI (bI_congr (in_iffN (b := 10) (by decide))) ?_
    refine J_if_neB dX10_forTwo_15 (fun d2 => ?_) (fun d2 => ?_)
    · refine J_aload_n dX10_forTwo_21 rfl ?_
      refine J_cVI (ci := 10) (c := 158) (as := []) (st := []) dX10_forTwo_22 lX10_234 okX10_hasWinters vX10_hasWinters s158 (by decide) rfl rfl rfl (Nat.le_of_ble_eq_true rfl) ⟨Nat.le_of_ble_eq_true rfl, Nat.le_of_ble_eq_true rfl⟩ CR.f (c_X10_hasWinters hG (hM.nm (by decide)) (by omega)) (fun vq5 gq5 eq5 => ?_)
      obtain ⟨rfl, fq5⟩ := eq5
      rw [fq5]
      refine J_if_neB dX10_forTwo_25 (fun d3 => ?_) (fun d3 => ?_)
      · exact absurd ⟨⟨d1, d2⟩, d3⟩ hno
      · refine J_bipush (x := (-4)) dX10_forTwo_28 (by decide) ?_
        exact J_retI dX10_forTwo_30 rfl ⟨(if_pos ⟨d1, d2⟩).symm, hM, Fr.rf⟩
    · refine J_bipush (x := (-2)) dX10_forTwo_18 (by decide) ?_
      exact J_retI dX10_forTwo_20 rfl ⟨(if_neg (fun q => d2 q.2)).symm, hM, Fr.rf⟩
theorem c_X10_forTwo {h : PH} {A : AS} {t b : Int32} (hG : GR h.2.2) (hM : MI h A) (hW : WF A) : CtI mX10_forTwo h [pR (some 158), pI t, pI b] (fun v h' => v = forTwoA A t b ∧ MP h h' A) := by
  by_cases hok : (inR t (aP A 0 3 0) ∧ inR b 11) ∧ 0 < aP A 0 2 0
  · obtain ⟨⟨h1, h2⟩, h3⟩ := id hok
    obtain ⟨t, ht, rfl⟩ := inR_of h1
    obtain ⟨b, hb, rfl⟩ := inR_of h2
    have bt := hW.tn
    rw [forTwoA, if_pos hok.1, if_neg (by omega), cl, cl, nI_clamp (by omega), nI_clamp (by omega)]
    exact c_X10_forTwo_in hG hM hW ht hb h3
  · have e : forTwoA A t b = if inR t (aP A 0 3 0) ∧ inR b 11 then -4 else -2 := by
      unfold forTwoA
      by_cases z : inR t (aP A 0 3 0) ∧ inR b 11
      · rw [if_pos z, if_pos z, if_pos (Nat.eq_zero_of_not_pos (fun y => hok ⟨z, y⟩))]
      · rw [if_neg z, if_neg z]
    rw [e]
    exact c_X10_forTwo_no hG hM hW hok
