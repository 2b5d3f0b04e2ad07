theorem c_X9_isSignRow {h : PH} {T : Nat → Int32} {n : Nat} (hG : GR h.2.2) (hT : ∀ i, i < 900 → h.1 1 i = T i) (hn : n ≤ 900) : CtI mX9_isSignRow h [pR (some 0), pI (nI n)] (fun v h' => v = bI (sgOk T n) ∧ h' = h) := by
  refine Ct.of (L := [some (pR (some 0)), some (pI (nI n)), none, none]) rfl rfl (Nat.le_of_ble_eq_true rfl) rfl ?_
  refine J_iload_n dX9_isSignRow_0 rfl ?_
  refine J_bipush (x := nI 6) dX9_isSignRow_1 (by decide) ?_
  refine J_icmp_leN dX9_isSignRow_3 (by omega) (by omega) (fun c1 => ?_) (fun c1 => ?_)
  · refine J_iconstN (n := 0) dX9_isSignRow_8 ?_
    refine J_istore_n (L' := [some (pR (some 0)), some (pI (nI n)), some (pI (nI 0)), none]) dX9_isSignRow_9 (by decide) rfl ?_
    refine J_L (L' := [some (pR (some 0)), some (pI (nI n)), some (pI (nI 0)), none]) rfl ?_
    refine J_forI (α := Unit) (L := fun i1 aa1 => [some (pR (some 0)), some (pI (nI n)), some (pI (nI i1)), none]) (fun i1 aa1 h1 => h = h1 ∧ ∀ j, j < i1 → inR (T j - nI 48) 3) (e := n) (fun aa1 h1 hI1 => ?_) (fun i1 aa1 h1 hi1 hI1 ih1 => ?_) 0 (()) _ (by omega) (⟨rfl, fun j hj => absurd hj (Nat.not_lt_zero j)⟩)
    · show J _ _ _ _ _ [some (pR (some 0)), some (pI (nI n)), some (pI (nI n)), none] _ _ h1
      obtain ⟨hI2, hI3⟩ := hI1
      subst hI2
      refine J_iload_n dX9_isSignRow_10 rfl ?_
      refine J_iload_n dX9_isSignRow_11 rfl ?_
      refine J_icmp_geN dX9_isSignRow_12 (by omega) (by omega) (fun c2 => ?_) (fun c2 => ?_)
      · refine J_iconstN (n := 1) dX9_isSignRow_42 ?_
        exact J_retZ dX9_isSignRow_43 rfl rfl ⟨bI_t ⟨by omega, hI3⟩, rfl⟩
      · exact (show False by omega).elim
    · show J _ _ _ _ _ [some (pR (some 0)), some (pI (nI n)), some (pI (nI i1)), none] _ _ h1
      obtain ⟨hI2, hI3⟩ := hI1
      subst hI2
      refine J_iload_n dX9_isSignRow_10 rfl ?_
      refine J_iload_n dX9_isSignRow_11 rfl ?_
      refine J_icmp_geN dX9_isSignRow_12 (by omega) (by omega) (fun c3 => ?_) (fun c3 => ?_)
      · exact (show False by omega).elim
      · refine J_aload_n dX9_isSignRow_15 rfl ?_
        refine J_getR (r := some 1) dX9_isSignRow_16 fX9_9 s0 (fun _ => rfl) (g0_0 hG) ?_
        refine J_iload_n dX9_isSignRow_19 rfl ?_
        refine J_baldN dX9_isSignRow_20 s1 (by decide) (by omega) ?_
        refine J_cvI ((hT i1 (by omega))) ?_
        refine J_bipush (x := nI 48) dX9_isSignRow_21 (by decide) ?_
        refine J_isub dX9_isSignRow_23 ?_
        refine J_istore_n (L' := [some (pR (some 0)), some (pI (nI n)), some (pI (nI i1)), some (pI ((T i1) - (nI 48)))]) dX9_isSignRow_24 (by decide) rfl ?_
        refine J_iload_n dX9_isSignRow_25 rfl ?_
        refine J_if_lt dX9_isSignRow_26 (fun d1 => ?_) (fun d1 => ?_)
        · refine J_iconstN (n := 0) dX9_isSignRow_34 ?_
          exact J_retZ dX9_isSignRow_35 rfl rfl ⟨bI_f (fun q => by have z := q.2 i1 (by omega); first | exact absurd (lt_0_.mp d1) (by omega) | exact absurd ((lt_nI (by decide)).mpr z.2) d2), rfl⟩
        · refine J_iload_n dX9_isSignRow_29 rfl ?_
          refine J_iconstN (n := 3) dX9_isSignRow_30 ?_
          refine J_icmp_lt dX9_isSignRow_31 (fun d2 => ?_) (fun d2 => ?_)
          · refine J_iincN (n := 1) (L' := [some (pR (some 0)), some (pI (nI n)), some (pI (nI (i1 + 1))), some (pI ((T i1) - (nI 48)))]) dX9_isSignRow_36 rfl (by decide) rfl ?_
            refine J_goto dX9_isSignRow_39 ?_
            refine J_drop (L' := [some (pR (some 0)), some (pI (nI n)), some (pI (nI (i1 + 1))), none]) 3 rfl ?_
            exact ih1 () _ ⟨rfl, fun j hj => by
        by_cases q : j = i1
        · subst q; exact inR_a (by decide) d1 d2
        · exact hI3 j (by omega)⟩
          · refine J_iconstN (n := 0) dX9_isSignRow_34 ?_
            exact J_retZ dX9_isSignRow_35 rfl rfl ⟨bI_f (fun q => by have z := q.2 i1 (by omega); first | exact absurd (lt_0_.mp d1) (by omega) | exact absurd ((lt_nI (by decide)).mpr z.2) d2), rfl⟩
  · refine J_iconstN (n := 0) dX9_isSignRow_6 ?_
    exact J_retZ dX9_isSignRow_7 rfl rfl ⟨bI_f (fun q => absurd q.1 (by omega)), rfl⟩
theorem c_X9_weighBySigns_ok {h : PH} {p : Nat} {A : AS} {n : Nat} (hG : GR h.2.2) (hX : XI h p A) (hW : WF A) (hn : n ≤ 900) (hok : sgOk (aT A) n) : CtL mX9_weighBySigns h [pR (some 0), pI (nI n)] (fun v h' => v = lN (tS (aP A) (aT A) n) ∧ Fr 116 116 h h' ∧ (sgOk (aT A) n → ∀ w, w < aP A 0 2 0 → h'.2.1 116 w = lN (pS (aP A) (aT A) w n))) := by
  have bN := hW.1
  have bk := hW.wk
  have bc := hW.cs
  have bw := hW.wn
  have bt := hW.tn
  have bf := hW.fn
  have hX0 := hX
  have hG0 := hG
  have hn6 := hok.1
  refine Ct.of (L := [some (pR (some 0)), some (pI (nI n)), none, none, none, none]) rfl rfl (Nat.le_of_ble_eq_true rfl) rfl ?_
  refine J_aload_n dX9_weighBySigns_0 rfl ?_
  refine J_iload_n dX9_weighBySigns_1 rfl ?_
  refine J_cVI (ci := 9) (c := 0) (as := [pI (nI n)]) (st := []) dX9_weighBySigns_2 lX9_277 okX9_isSignRow vX9_isSignRow s0 (by decide) rfl rfl rfl (Nat.le_of_ble_eq_true rfl) ⟨Nat.le_of_ble_eq_true rfl, Nat.le_of_ble_eq_true rfl⟩ CR.f (c_X9_isSignRow (T := aT A) hG (fun i hi => hX.2.1.1 i hi) hn) (fun vq1 gq1 eq1 => ?_)
  obtain ⟨rfl, fq1⟩ := eq1
  rw [fq1]
  refine J_if_neB dX9_weighBySigns_5 (fun c2 => ?_) (fun c2 => ?_)
  · refine J_lconst (x := 0) dX9_weighBySigns_10 rfl ?_
    refine J_lstore_n (L' := [some (pR (some 0)), some (pI (nI n)), some (pL 0), none, none, none]) dX9_weighBySigns_11 (by decide) rfl ?_
    refine J_iconstN (n := 0) dX9_weighBySigns_12 ?_
    refine J_istore (L' := [some (pR (some 0)), some (pI (nI n)), some (pL 0), none, some (pI (nI 0)), none]) dX9_weighBySigns_13 (by decide) rfl ?_
    refine J_L (L' := [some (pR (some 0)), some (pI (nI n)), some (pL (sL64 (fun w => lN (pS (aP A) (aT A) w n)) 0)), none, some (pI (nI 0)), none]) rfl ?_
    refine J_forI (α := Unit) (L := fun i1 aa1 => [some (pR (some 0)), some (pI (nI n)), some (pL (sL64 (fun w => lN (pS (aP A) (aT A) w n)) i1)), none, some (pI (nI i1)), none]) (fun i1 aa1 h1 => (∀ j, j < i1 → h1.2.1 116 j = lN (pS (aP A) (aT A) j n)) ∧ Fr 116 116 h h1) (e := aP A 0 2 0) (fun aa1 h1 hI1 => ?_) (fun i1 aa1 h1 hi1 hI1 ih1 => ?_) 0 (()) _ (by omega) (⟨fun j hj => absurd hj (Nat.not_lt_zero j), Fr.rf⟩)
    · show J _ _ _ _ _ [some (pR (some 0)), some (pI (nI n)), some (pL (sL64 (fun w => lN (pS (aP A) (aT A) w n)) (aP A 0 2 0))), none, some (pI (nI (aP A 0 2 0))), none] _ _ h1
      obtain ⟨hI2, hI3⟩ := hI1
      have hX := hX0.xf hW (.o1 hI3 (by decide) (by decide))
      have hG := hI3.g hG0
      refine J_iload dX9_weighBySigns_15 rfl ?_
      refine J_aload_n dX9_weighBySigns_17 rfl ?_
      refine J_getR (r := some p) dX9_weighBySigns_18 fX9_20 s0 (fun _ => rfl) (hX.cu) ?_
      refine J_getI dX9_weighBySigns_21 fX9_110 hX.po.s (fun _ => rfl) ?_
      refine J_cvI (hX.wn) ?_
      refine J_icmp_geN dX9_weighBySigns_24 (by omega) (by omega) (fun c3 => ?_) (fun c3 => ?_)
      · refine J_lload_n dX9_weighBySigns_107 rfl ?_
        exact J_retL dX9_weighBySigns_108 rfl ⟨by unfold tS; rw [if_pos hok]; exact sm_lN _, hI3, fun _ => hI2⟩
      · exact (show False by omega).elim
    · show J _ _ _ _ _ [some (pR (some 0)), some (pI (nI n)), some (pL (sL64 (fun w => lN (pS (aP A) (aT A) w n)) i1)), none, some (pI (nI i1)), none] _ _ h1
      obtain ⟨hI2, hI3⟩ := hI1
      have hX := hX0.xf hW (.o1 hI3 (by decide) (by decide))
      have hG := hI3.g hG0
      refine J_iload dX9_weighBySigns_15 rfl ?_
      refine J_aload_n dX9_weighBySigns_17 rfl ?_
      refine J_getR (r := some p) dX9_weighBySigns_18 fX9_20 s0 (fun _ => rfl) (hX.cu) ?_
      refine J_getI dX9_weighBySigns_21 fX9_110 hX.po.s (fun _ => rfl) ?_
      refine J_cvI (hX.wn) ?_
      refine J_icmp_geN dX9_weighBySigns_24 (by omega) (by omega) (fun c4 => ?_) (fun c4 => ?_)
      · exact (show False by omega).elim
      · refine J_aload_n dX9_weighBySigns_27 rfl ?_
        refine J_getR (r := some 116) dX9_weighBySigns_28 fX9_55 s0 (fun _ => rfl) (g0_8 hG) ?_
        refine J_iload dX9_weighBySigns_31 rfl ?_
        refine J_aload_n dX9_weighBySigns_33 rfl ?_
        refine J_getR (r := some p) dX9_weighBySigns_34 fX9_20 s0 (fun _ => rfl) (hX.cu) ?_
        refine J_getR (r := some (p + 1)) dX9_weighBySigns_37 fX9_127 hX.po.s (fun _ => rfl) (hX.po.e8 hG) ?_
        refine J_iload dX9_weighBySigns_40 rfl ?_
        refine J_laldN dX9_weighBySigns_42 hX.po.s1 (by decide) (by omega) ?_
        refine J_cvL ((hX.x hi1)) ?_
        refine J_lastN dX9_weighBySigns_43 s116 (by decide) (by omega) ?_
        refine J_iconstN (n := 0) dX9_weighBySigns_44 ?_
        refine J_istore (L' := [some (pR (some 0)), some (pI (nI n)), some (pL (sL64 (fun w => lN (pS (aP A) (aT A) w n)) i1)), none, some (pI (nI i1)), some (pI (nI 0))]) dX9_weighBySigns_45 (by decide) rfl ?_
        refine J_L (L' := [some (pR (some 0)), some (pI (nI n)), some (pL (sL64 (fun w => lN (pS (aP A) (aT A) w n)) i1)), none, some (pI (nI i1)), some (pI (nI 0))]) rfl ?_
        refine J_forI (α := Unit) (L := fun i22 aa22 => [some (pR (some 0)), some (pI (nI n)), some (pL (sL64 (fun w => lN (pS (aP A) (aT A) w n)) i1)), none, some (pI (nI i1)), some (pI (nI i22))]) (fun i22 aa22 h22 => h22.2.1 116 i1 = lN (pS (aP A) (aT A) i1 i22) ∧ (∀ j, j < i1 → h22.2.1 116 j = lN (pS (aP A) (aT A) j n)) ∧ Fr 116 116 h h22) (e := n) (fun aa22 h22 hI22 => ?_) (fun i22 aa22 h22 hi22 hI22 ih22 => ?_) 0 (()) _ (by omega) (⟨rL_s, fun j hj => (rL_k (by omega)).trans (hI2 j hj), hI3.tr (Fr.sL (by decide) (by decide))⟩)
        · show J _ _ _ _ _ [some (pR (some 0)), some (pI (nI n)), some (pL (sL64 (fun w => lN (pS (aP A) (aT A) w n)) i1)), none, some (pI (nI i1)), some (pI (nI n))] _ _ h22
          obtain ⟨hI4, hI5, hI6⟩ := hI22
          have hX := hX0.xf hW (.o1 hI6 (by decide) (by decide))
          have hG := hI6.g hG0
          refine J_iload dX9_weighBySigns_47 rfl ?_
          refine J_iload_n dX9_weighBySigns_49 rfl ?_
          refine J_icmp_geN dX9_weighBySigns_50 (by omega) (by omega) (fun c5 => ?_) (fun c5 => ?_)
          · refine J_lload_n dX9_weighBySigns_91 rfl ?_
            refine J_aload_n dX9_weighBySigns_92 rfl ?_
            refine J_getR (r := some 116) dX9_weighBySigns_93 fX9_55 s0 (fun _ => rfl) (g0_8 hG) ?_
            refine J_iload dX9_weighBySigns_96 rfl ?_
            refine J_laldN dX9_weighBySigns_98 s116 (by decide) (by omega) ?_
            refine J_cvL (hI4) ?_
            refine J_ladd dX9_weighBySigns_99 ?_
            refine J_lstore_n (L' := [some (pR (some 0)), some (pI (nI n)), some (pL ((sL64 (fun w => lN (pS (aP A) (aT A) w n)) i1) + (lN (pS (aP A) (aT A) i1 n)))), none, some (pI (nI i1)), some (pI (nI n))]) dX9_weighBySigns_100 (by decide) rfl ?_
            refine J_iincN (n := 1) (L' := [some (pR (some 0)), some (pI (nI n)), some (pL ((sL64 (fun w => lN (pS (aP A) (aT A) w n)) i1) + (lN (pS (aP A) (aT A) i1 n)))), none, some (pI (nI (i1 + 1))), some (pI (nI n))]) dX9_weighBySigns_101 rfl (by decide) rfl ?_
            refine J_goto dX9_weighBySigns_104 ?_
            refine J_drop (L' := [some (pR (some 0)), some (pI (nI n)), some (pL ((sL64 (fun w => lN (pS (aP A) (aT A) w n)) i1) + (lN (pS (aP A) (aT A) i1 n)))), none, some (pI (nI (i1 + 1))), none]) 5 rfl ?_
            refine J_L (L' := [some (pR (some 0)), some (pI (nI n)), some (pL (sL64 (fun w => lN (pS (aP A) (aT A) w n)) (i1 + 1))), none, some (pI (nI (i1 + 1))), none]) rfl ?_
            exact ih1 () _ ⟨fun j hj => by
          by_cases q : j = i1
          · subst q; exact hI4
          · exact hI5 j (by omega), hI6⟩
          · exact (show False by omega).elim
        · show J _ _ _ _ _ [some (pR (some 0)), some (pI (nI n)), some (pL (sL64 (fun w => lN (pS (aP A) (aT A) w n)) i1)), none, some (pI (nI i1)), some (pI (nI i22))] _ _ h22
          obtain ⟨hI4, hI5, hI6⟩ := hI22
          have hX := hX0.xf hW (.o1 hI6 (by decide) (by decide))
          have hG := hI6.g hG0
          have hs := sgv_eq (hok.2 i22 (by omega))
          have hb := hW.sg hi1 (k := sgv (aT A) i22 + 1) (by omega)
          refine J_iload dX9_weighBySigns_47 rfl ?_
          refine J_iload_n dX9_weighBySigns_49 rfl ?_
          refine J_icmp_geN dX9_weighBySigns_50 (by omega) (by omega) (fun c6 => ?_) (fun c6 => ?_)
          · exact (show False by omega).elim
          · refine J_aload_n dX9_weighBySigns_53 rfl ?_
            refine J_getR (r := some 116) dX9_weighBySigns_54 fX9_55 s0 (fun _ => rfl) (g0_8 hG) ?_
            refine J_iload dX9_weighBySigns_57 rfl ?_
            refine J_dup2 dX9_weighBySigns_59 rfl rfl ?_
            refine J_laldN dX9_weighBySigns_60 s116 (by decide) (by omega) ?_
            refine J_cvL (hI4) ?_
            refine J_aload_n dX9_weighBySigns_61 rfl ?_
            refine J_getR (r := some p) dX9_weighBySigns_62 fX9_20 s0 (fun _ => rfl) (hX.cu) ?_
            refine J_getR (r := some (p + 2)) dX9_weighBySigns_65 fX9_168 hX.po.s (fun _ => rfl) (hX.po.e9 hG) ?_
            refine J_iload dX9_weighBySigns_68 rfl ?_
            refine J_aald7N (r := some (p + 3 + i1)) dX9_weighBySigns_70 hX.po.s2 (by decide) (by omega) (hX.po.esg hG (by omega)) ?_
            refine J_aload_n dX9_weighBySigns_71 rfl ?_
            refine J_getR (r := some 1) dX9_weighBySigns_72 fX9_9 s0 (fun _ => rfl) (g0_0 hG) ?_
            refine J_iload dX9_weighBySigns_75 rfl ?_
            refine J_baldN dX9_weighBySigns_77 s1 (by decide) (by omega) ?_
            refine J_cvI ((hX.2.1.1 i22 (by omega))) ?_
            refine J_bipush (x := nI 48) dX9_weighBySigns_78 (by decide) ?_
            refine J_isub dX9_weighBySigns_80 ?_
            refine J_cvI (y := nI (sgv (aT A) i22)) hs.1 ?_
            refine J_ialdN dX9_weighBySigns_81 (hX.po.sg (by omega)) (by decide) (by omega) ?_
            refine J_cvI ((hX.sg hi1 hs.2)) ?_
            refine J_i2lN dX9_weighBySigns_82 (by omega) ?_
            refine J_lmul dX9_weighBySigns_83 ?_
            refine J_cvL (y := lN (pS (aP A) (aT A) i1 (i22 + 1))) (lN_mul _ _) ?_
            refine J_lastN dX9_weighBySigns_84 s116 (by decide) (by omega) ?_
            refine J_iincN (n := 1) (L' := [some (pR (some 0)), some (pI (nI n)), some (pL (sL64 (fun w => lN (pS (aP A) (aT A) w n)) i1)), none, some (pI (nI i1)), some (pI (nI (i22 + 1)))]) dX9_weighBySigns_85 rfl (by decide) rfl ?_
            refine J_goto dX9_weighBySigns_88 ?_
            exact ih22 () _ ⟨rL_s, fun j hj => (rL_k (by omega)).trans (hI5 j hj), hI6.tr (Fr.sL (by decide) (by decide))⟩
  · exact absurd hok c2
theorem c_X9_weighBySigns_no {h : PH} {p : Nat} {A : AS} {n : Nat} (hG : GR h.2.2) (hX : XI h p A) (hW : WF A) (hn : n ≤ 900) (hok : ¬ sgOk (aT A) n) : CtL mX9_weighBySigns h [pR (some 0), pI (nI n)] (fun v h' => v = lN (tS (aP A) (aT A) n) ∧ Fr 116 116 h h' ∧ (sgOk (aT A) n → ∀ w, w < aP A 0 2 0 → h'.2.1 116 w = lN (pS (aP A) (aT A) w n))) := by
  refine Ct.of (L := [some (pR (some 0)), some (pI (nI n)), none, none, none, none]) rfl rfl (Nat.le_of_ble_eq_true rfl) rfl ?_
  refine J_aload_n dX9_weighBySigns_0 rfl ?_
  refine J_iload_n dX9_weighBySigns_1 rfl ?_
  refine J_cVI (ci := 9) (c := 0) (as := [pI (nI n)]) (st := []) dX9_weighBySigns_2 lX9_277 okX9_isSignRow vX9_isSignRow s0 (by decide) rfl rfl rfl (Nat.le_of_ble_eq_true rfl) ⟨Nat.le_of_ble_eq_true rfl, Nat.le_of_ble_eq_true rfl⟩ CR.f (c_X9_isSignRow (T := aT A) hG (fun i hi => hX.2.1.1 i hi) hn) (fun vq1 gq1 eq1 => ?_)
  obtain ⟨rfl, fq1⟩ := eq1
  rw [fq1]
  refine J_if_neB dX9_weighBySigns_5 (fun c2 => ?_) (fun c2 => ?_)
  · exact absurd c2 hok
  · refine J_lconst (x := 0) dX9_weighBySigns_8 rfl ?_
    exact J_retL dX9_weighBySigns_9 rfl ⟨by unfold tS; rw [if_neg hok]; rfl, Fr.rf, fun z => absurd z hok⟩
theorem c_X9_weighBySigns {h : PH} {p : Nat} {A : AS} {n : Nat} (hG : GR h.2.2) (hX : XI h p A) (hW : WF A) (hn : n ≤ 900) : CtL mX9_weighBySigns h [pR (some 0), pI (nI n)] (fun v h' => v = lN (tS (aP A) (aT A) n) ∧ Fr 116 116 h h' ∧ (sgOk (aT A) n → ∀ w, w < aP A 0 2 0 → h'.2.1 116 w = lN (pS (aP A) (aT A) w n))) := by
  by_cases hok : sgOk (aT A) n
  · exact c_X9_weighBySigns_ok hG hX hW hn hok
  · exact c_X9_weighBySigns_no hG hX hW hn hok
theorem c_X9_think_in {h : PH} {p : Nat} {A : AS} {w b : Nat} (hG : GR h.2.2) (hX : XI h p A) (hW : WF A) (hw : w < aP A 0 2 0) (hb : b < 2) : CtL mX9_think h [pR (some 0), pI (nI w), pI (nI b)] (fun v h' => v = (if tS (aP A) (aT A) (aN A) = 0 then -1 else lstA (pS (aP A) (aT A) w (aN A)) (tS (aP A) (aT A) (aN A)) b) ∧ XP h h' p (eA A)) := by
  have bN := hW.1
  have bk := hW.wk
  have bc := hW.cs
  have bw := hW.wn
  have bt := hW.tn
  have bf := hW.fn
  have bT := tS_b hW (T := aT A) (n := aN A)
  refine Ct.of (L := [some (pR (some 0)), some (pI (nI w)), some (pI (nI b)), none, none, none]) rfl rfl (Nat.le_of_ble_eq_true rfl) rfl ?_
  refine J_aload_n dX9_think_0 rfl ?_
  refine J_cVI (ci := 9) (c := 0) (as := []) (st := []) dX9_think_1 lX9_74 okX9_emptyTape vX9_emptyTape s0 (by decide) rfl rfl rfl (Nat.le_of_ble_eq_true rfl) ⟨Nat.le_of_ble_eq_true rfl, Nat.le_of_ble_eq_true rfl⟩ CR.f (c_X9_emptyTape hX.2.1.2) (fun v0 g0 e0 => ?_)
  obtain ⟨rfl, e0⟩ := e0
  have hX : XI g0 p (eA A) := by rw [e0]; exact hX.emp hW
  have hG : GR g0.2.2 := by rw [e0]; exact hG
  have hF : Fr 0 157 h g0 := by rw [e0]; exact Fr.sI (by decide) (by decide)
  have hW0 := hW
  have hW : WF (eA A) := hW.emp
  refine J_istore_n (L' := [some (pR (some 0)), some (pI (nI w)), some (pI (nI b)), some (pI (nI (aN A))), none, none]) dX9_think_4 (by decide) rfl ?_
  refine J_aload_n dX9_think_5 rfl ?_
  refine J_iload_n dX9_think_6 rfl ?_
  refine J_cVI (ci := 9) (c := 0) (as := [pI (nI w)]) (st := []) dX9_think_7 lX9_123 okX9_hasWinter vX9_hasWinter s0 (by decide) rfl rfl rfl (Nat.le_of_ble_eq_true rfl) ⟨Nat.le_of_ble_eq_true rfl, Nat.le_of_ble_eq_true rfl⟩ CR.f (c_X9_hasWinter (n := aP A 0 2 0) hG hX.po hX.cu hX.wn (by omega)) (fun vq1 gq1 eq1 => ?_)
  obtain ⟨rfl, fq1⟩ := eq1
  rw [fq1]
  refine J_cvI (bI_congr (inR_nI_iff (by omega))) ?_
  refine J_if_neB dX9_think_10 (fun c2 => ?_) (fun c2 => ?_)
  · refine J_aload_n dX9_think_17 rfl ?_
    refine J_iload_n dX9_think_18 rfl ?_
    refine J_cVL (ci := 9) (c := 0) (as := [pI (nI (aN A))]) (st := []) dX9_think_19 lX9_272 okX9_weighBySigns vX9_weighBySigns s0 (by decide) rfl rfl rfl (Nat.le_of_ble_eq_true rfl) ⟨Nat.le_of_ble_eq_true rfl, Nat.le_of_ble_eq_true rfl⟩ CR.f (c_X9_weighBySigns (A := eA A) hG hX hW (by omega)) (fun vg3 g3 eg3 => ?_)
    obtain ⟨rfl, f1, zp⟩ := eg3
    have qg3 : XFr _ _ := .o1 f1 (by decide) (by decide)
    have hG := qg3.g hG
    have hX := hX.xf hW qg3
    have hF := hF.tr qg3.fr
    refine J_cvL (y := lN (tS (aP A) (aT A) (aN A))) rfl ?_
    refine J_lstore (L' := [some (pR (some 0)), some (pI (nI w)), some (pI (nI b)), some (pI (nI (aN A))), some (pL (lN (tS (aP A) (aT A) (aN A)))), none]) dX9_think_22 (by decide) rfl ?_
    refine J_lload dX9_think_24 rfl ?_
    refine J_lconst (x := 0) dX9_think_26 rfl ?_
    refine J_lcmp dX9_think_27 ?_
    refine J_lif_ne dX9_think_28 (fun c4 => ?_) (fun c4 => ?_)
    · have hz : ¬ tS (aP A) (aT A) (aN A) = 0 := fun z => c4 (by rw [z]; rfl)
      have hok := tS_ok hz
      refine J_aload_n dX9_think_37 rfl ?_
      refine J_getR (r := some 116) dX9_think_38 fX9_55 s0 (fun _ => rfl) (g0_8 hG) ?_
      refine J_iload_n dX9_think_41 rfl ?_
      refine J_laldN dX9_think_42 s116 (by decide) (by omega) ?_
      refine J_cvL ((show _ = lN (pS (aP A) (aT A) w (aN A)) from zp hok w hw)) ?_
      refine J_lload dX9_think_43 rfl ?_
      refine J_iload_n dX9_think_45 rfl ?_
      refine J_cSL (as := [pL (lN (pS (aP A) (aT A) w (aN A))), pL (lN (tS (aP A) (aT A) (aN A))), pI (nI b)]) (st := []) dX9_think_46 lX9_204 okX9_leastNumber sX9_leastNumber rfl rfl (Nat.le_of_ble_eq_true rfl) ⟨Nat.le_of_ble_eq_true rfl, Nat.le_of_ble_eq_true rfl⟩ CR.f (c_X9_leastNumber (by have := pS_c hW0 hw hok; omega) (by omega) (by omega) hb) (fun vq5 gq5 eq5 => ?_)
      obtain ⟨rfl, fq5⟩ := eq5
      rw [fq5]
      exact J_retL dX9_think_49 rfl ⟨(if_neg hz).symm, hX, hF⟩
    · have hz : tS (aP A) (aT A) (aN A) = 0 := (lN_z (by omega)).mp c4
      refine J_ldc2 dX9_think_31 kX9_275 ?_
      refine J_goto dX9_think_34 ?_
      exact J_retL dX9_think_49 rfl ⟨(if_pos hz).symm, hX, hF⟩
  · exact (show False by omega).elim
theorem c_X9_think_no {h : PH} {p : Nat} {A : AS} {w : Int32} {b : Nat} (hG : GR h.2.2) (hX : XI h p A) (hW : WF A) (hno : ¬ inR w (aP A 0 2 0)) : CtL mX9_think h [pR (some 0), pI w, pI (nI b)] (fun v h' => v = -2 ∧ XP h h' p (eA A)) := by
  have bN := hW.1
  have bk := hW.wk
  have bc := hW.cs
  have bw := hW.wn
  have bt := hW.tn
  have bf := hW.fn
  refine Ct.of (L := [some (pR (some 0)), some (pI w), some (pI (nI b)), none, none, none]) rfl rfl (Nat.le_of_ble_eq_true rfl) rfl ?_
  refine J_aload_n dX9_think_0 rfl ?_
  refine J_cVI (ci := 9) (c := 0) (as := []) (st := []) dX9_think_1 lX9_74 okX9_emptyTape vX9_emptyTape s0 (by decide) rfl rfl rfl (Nat.le_of_ble_eq_true rfl) ⟨Nat.le_of_ble_eq_true rfl, Nat.le_of_ble_eq_true rfl⟩ CR.f (c_X9_emptyTape hX.2.1.2) (fun v0 g0 e0 => ?_)
  obtain ⟨rfl, e0⟩ := e0
  have hX : XI g0 p (eA A) := by rw [e0]; exact hX.emp hW
  have hG : GR g0.2.2 := by rw [e0]; exact hG
  have hF : Fr 0 157 h g0 := by rw [e0]; exact Fr.sI (by decide) (by decide)
  have hW0 := hW
  have hW : WF (eA A) := hW.emp
  refine J_istore_n (L' := [some (pR (some 0)), some (pI w), some (pI (nI b)), some (pI (nI (aN A))), none, none]) dX9_think_4 (by decide) rfl ?_
  refine J_aload_n dX9_think_5 rfl ?_
  refine J_iload_n dX9_think_6 rfl ?_
  refine J_cVI (ci := 9) (c := 0) (as := [pI w]) (st := []) dX9_think_7 lX9_123 okX9_hasWinter vX9_hasWinter s0 (by decide) rfl rfl rfl (Nat.le_of_ble_eq_true rfl) ⟨Nat.le_of_ble_eq_true rfl, Nat.le_of_ble_eq_true rfl⟩ CR.f (c_X9_hasWinter (n := aP A 0 2 0) hG hX.po hX.cu hX.wn (by omega)) (fun vq1 gq1 eq1 => ?_)
  obtain ⟨rfl, fq1⟩ := eq1
  rw [fq1]
  refine J_if_neB dX9_think_10 (fun c2 => ?_) (fun c2 => ?_)
  · exact absurd c2 hno
  · refine J_ldc2 dX9_think_13 kX9_199 ?_
    exact J_retL dX9_think_16 rfl ⟨rfl, hX, hF⟩
theorem c_X9_think {h : PH} {p : Nat} {A : AS} {w : Int32} {b : Nat} (hG : GR h.2.2) (hX : XI h p A) (hW : WF A) (hb : b < 2) : CtL mX9_think h [pR (some 0), pI w, pI (nI b)] (fun v h' => v = thinkA A w b ∧ XP h h' p (eA A)) := by
  by_cases hok : inR w (aP A 0 2 0)
  · obtain ⟨w, hw, rfl⟩ := inR_of hok
    have bt := hW.wn
    rw [thinkA, if_pos hok, cl, nI_clamp (by omega)]
    exact c_X9_think_in hG hX hW hw hb
  · rw [thinkA, if_neg hok]
    exact c_X9_think_no hG hX hW hok
theorem c_X9_after_in {h : PH} {p : Nat} {A : AS} {t : Nat} (hG : GR h.2.2) (hX : XI h p A) (hW : WF A) (ht : t < aP A 0 3 0) : CtI mX9_after h [pR (some 0), pI (nI t)] (fun v h' => v = (if tS (aP A) (aT A) (aN A) = 0 then -1 else nI (bst (afF A t) 40)) ∧ XP h h' p (eA A)) := by
  have bN := hW.1
  have bk := hW.wk
  have bc := hW.cs
  have bw := hW.wn
  have bt := hW.tn
  have bf := hW.fn
  have bT := tS_b hW (T := aT A) (n := aN A)
  refine Ct.of (L := [some (pR (some 0)), some (pI (nI t)), none]) rfl rfl (Nat.le_of_ble_eq_true rfl) rfl ?_
  refine J_aload_n dX9_after_0 rfl ?_
  refine J_cVI (ci := 9) (c := 0) (as := []) (st := []) dX9_after_1 lX9_74 okX9_emptyTape vX9_emptyTape s0 (by decide) rfl rfl rfl (Nat.le_of_ble_eq_true rfl) ⟨Nat.le_of_ble_eq_true rfl, Nat.le_of_ble_eq_true rfl⟩ CR.f (c_X9_emptyTape hX.2.1.2) (fun v0 g0 e0 => ?_)
  obtain ⟨rfl, e0⟩ := e0
  have hX : XI g0 p (eA A) := by rw [e0]; exact hX.emp hW
  have hG : GR g0.2.2 := by rw [e0]; exact hG
  have hF : Fr 0 157 h g0 := by rw [e0]; exact Fr.sI (by decide) (by decide)
  have hW0 := hW
  have hW : WF (eA A) := hW.emp
  refine J_istore_n (L' := [some (pR (some 0)), some (pI (nI t)), some (pI (nI (aN A)))]) dX9_after_4 (by decide) rfl ?_
  refine J_aload_n dX9_after_5 rfl ?_
  refine J_iload_n dX9_after_6 rfl ?_
  refine J_cVI (ci := 9) (c := 0) (as := [pI (nI t)]) (st := []) dX9_after_7 lX9_130 okX9_hasThing vX9_hasThing s0 (by decide) rfl rfl rfl (Nat.le_of_ble_eq_true rfl) ⟨Nat.le_of_ble_eq_true rfl, Nat.le_of_ble_eq_true rfl⟩ CR.f (c_X9_hasThing (n := aP A 0 3 0) hG hX.po hX.cu hX.tn (by omega)) (fun vq1 gq1 eq1 => ?_)
  obtain ⟨rfl, fq1⟩ := eq1
  rw [fq1]
  refine J_cvI (bI_congr (inR_nI_iff (by omega))) ?_
  refine J_if_neB dX9_after_10 (fun c2 => ?_) (fun c2 => ?_)
  · refine J_aload_n dX9_after_16 rfl ?_
    refine J_iload_n dX9_after_17 rfl ?_
    refine J_cVL (ci := 9) (c := 0) (as := [pI (nI (aN A))]) (st := []) dX9_after_18 lX9_272 okX9_weighBySigns vX9_weighBySigns s0 (by decide) rfl rfl rfl (Nat.le_of_ble_eq_true rfl) ⟨Nat.le_of_ble_eq_true rfl, Nat.le_of_ble_eq_true rfl⟩ CR.f (c_X9_weighBySigns (A := eA A) hG hX hW (by omega)) (fun vg3 g3 eg3 => ?_)
    obtain ⟨rfl, f1, zp⟩ := eg3
    have qg3 : XFr _ _ := .o1 f1 (by decide) (by decide)
    have hG := qg3.g hG
    have hX := hX.xf hW qg3
    have hF := hF.tr qg3.fr
    refine J_cvL (y := lN (tS (aP A) (aT A) (aN A))) rfl ?_
    refine J_lconst (x := 0) dX9_after_21 rfl ?_
    refine J_lcmp dX9_after_22 ?_
    refine J_lif_ne dX9_after_23 (fun c4 => ?_) (fun c4 => ?_)
    · have hz : ¬ tS (aP A) (aT A) (aN A) = 0 := fun z => c4 (by rw [z]; rfl)
      have hok := tS_ok hz
      refine J_aload_n dX9_after_28 rfl ?_
      refine J_getR (r := some 92) dX9_after_29 fX9_37 s0 (fun _ => rfl) (g0_5 hG) ?_
      refine J_aload_n dX9_after_32 rfl ?_
      refine J_getR (r := some p) dX9_after_33 fX9_20 s0 (fun _ => rfl) (hX.cu) ?_
      refine J_aload_n dX9_after_36 rfl ?_
      refine J_getR (r := some p) dX9_after_37 fX9_20 s0 (fun _ => rfl) (hX.cu) ?_
      refine J_getR (r := some (p + 7)) dX9_after_40 fX9_133 hX.po.s (fun _ => rfl) (hX.po.e10 hG) ?_
      refine J_iload_n dX9_after_43 rfl ?_
      refine J_aald4N (r := some (p + 9 + 7 * t)) dX9_after_44 hX.po.s7 (by decide) (by omega) (hX.po.eth hG (by omega)) ?_
      refine J_aload_n dX9_after_45 rfl ?_
      refine J_getR (r := some 116) dX9_after_46 fX9_55 s0 (fun _ => rfl) (g0_8 hG) ?_
      refine J_bipush (x := nI 40) dX9_after_49 (by decide) ?_
      refine J_cVV (ci := 2) (c := 92) (as := [pR (some p), pR (some (p + 9 + 7 * t)), pR (some 116), pI (nI 40)]) (st := []) dX9_after_51 lX9_228 okX2_scoreRow vX2_scoreRow s92 (by decide) rfl rfl rfl (Nat.le_of_ble_eq_true rfl) ⟨Nat.le_of_ble_eq_true rfl, Nat.le_of_ble_eq_true rfl⟩ CR.f (c_X2_scoreRow (n := aP A 0 2 0) (k := aP A 0 0 0) hG hX.po (hX.th hW ht) (hX.ta hW ht) hX.wn (by omega) hX.wk (by omega) ⟨s116, by omega⟩ (x := fun w => lN (pS (aP A) (aT A) w (aN A))) (fun w hw => zp hok w hw) (u := aV A t) (fun w hw => hX.wa hW ht (by omega)) (by omega)) (fun g5 eg5 => ?_)
      obtain ⟨z1, f2⟩ := eg5
      have qg5 : XFr _ _ := .of f2 (by decide) (by decide)
      have hG := qg5.g hG
      have hX := hX.xf hW qg5
      have hF := hF.tr qg5.fr
      refine J_aload_n dX9_after_54 rfl ?_
      refine J_getR (r := some 92) dX9_after_55 fX9_37 s0 (fun _ => rfl) (g0_5 hG) ?_
      refine J_cVI (ci := 2) (c := 92) (as := []) (st := []) dX9_after_58 lX9_232 okX2_bestOrder vX2_bestOrder s92 (by decide) rfl rfl rfl (Nat.le_of_ble_eq_true rfl) ⟨Nat.le_of_ble_eq_true rfl, Nat.le_of_ble_eq_true rfl⟩ CR.f (c_X2_bestOrder hG) (fun vq6 gq6 eq6 => ?_)
      obtain ⟨rfl, fq6⟩ := eq6
      rw [fq6]
      refine J_cvI (y := nI (bst (afF A t) 40)) (by rw [bst_cg 40 (fun i hi => (z1 i hi).trans scR_eq)]; rfl) ?_
      exact J_retI dX9_after_61 rfl ⟨(if_neg hz).symm, hX, hF⟩
    · have hz : tS (aP A) (aT A) (aN A) = 0 := (lN_z (by omega)).mp c4
      refine J_iconst (x := -1) dX9_after_26 (by decide) ?_
      exact J_retI dX9_after_27 rfl ⟨(if_pos hz).symm, hX, hF⟩
  · exact (show False by omega).elim
theorem c_X9_after_no {h : PH} {p : Nat} {A : AS} {t : Int32} (hG : GR h.2.2) (hX : XI h p A) (hW : WF A) (hno : ¬ inR t (aP A 0 3 0)) : CtI mX9_after h [pR (some 0), pI t] (fun v h' => v = -2 ∧ XP h h' p (eA A)) := by
  have bN := hW.1
  have bk := hW.wk
  have bc := hW.cs
  have bw := hW.wn
  have bt := hW.tn
  have bf := hW.fn
  refine Ct.of (L := [some (pR (some 0)), some (pI t), none]) rfl rfl (Nat.le_of_ble_eq_true rfl) rfl ?_
  refine J_aload_n dX9_after_0 rfl ?_
  refine J_cVI (ci := 9) (c := 0) (as := []) (st := []) dX9_after_1 lX9_74 okX9_emptyTape vX9_emptyTape s0 (by decide) rfl rfl rfl (Nat.le_of_ble_eq_true rfl) ⟨Nat.le_of_ble_eq_true rfl, Nat.le_of_ble_eq_true rfl⟩ CR.f (c_X9_emptyTape hX.2.1.2) (fun v0 g0 e0 => ?_)
  obtain ⟨rfl, e0⟩ := e0
  have hX : XI g0 p (eA A) := by rw [e0]; exact hX.emp hW
  have hG : GR g0.2.2 := by rw [e0]; exact hG
  have hF : Fr 0 157 h g0 := by rw [e0]; exact Fr.sI (by decide) (by decide)
  have hW0 := hW
  have hW : WF (eA A) := hW.emp
  refine J_istore_n (L' := [some (pR (some 0)), some (pI t), some (pI (nI (aN A)))]) dX9_after_4 (by decide) rfl ?_
  refine J_aload_n dX9_after_5 rfl ?_
  refine J_iload_n dX9_after_6 rfl ?_
  refine J_cVI (ci := 9) (c := 0) (as := [pI t]) (st := []) dX9_after_7 lX9_130 okX9_hasThing vX9_hasThing s0 (by decide) rfl rfl rfl (Nat.le_of_ble_eq_true rfl) ⟨Nat.le_of_ble_eq_true rfl, Nat.le_of_ble_eq_true rfl⟩ CR.f (c_X9_hasThing (n := aP A 0 3 0) hG hX.po hX.cu hX.tn (by omega)) (fun vq1 gq1 eq1 => ?_)
  obtain ⟨rfl, fq1⟩ := eq1
  rw [fq1]
  refine J_if_neB dX9_after_10 (fun c2 => ?_) (fun c2 => ?_)
  · exact absurd c2 hno
  · refine J_bipush (x := (-2)) dX9_after_13 (by decide) ?_
    exact J_retI dX9_after_15 rfl ⟨rfl, hX, hF⟩
theorem c_X9_after {h : PH} {p : Nat} {A : AS} {t : Int32} (hG : GR h.2.2) (hX : XI h p A) (hW : WF A) : CtI mX9_after h [pR (some 0), pI t] (fun v h' => v = afterA A t ∧ XP h h' p (eA A)) := by
  by_cases hok : inR t (aP A 0 3 0)
  · obtain ⟨t, ht, rfl⟩ := inR_of hok
    have bt := hW.tn
    rw [afterA, if_pos hok, cl, nI_clamp (by omega)]
    exact c_X9_after_in hG hX hW ht
  · rw [afterA, if_neg hok]
    exact c_X9_after_no hG hX hW hok
theorem Fr.m182 {h h' : PH} (f : Fr 182 182 h h') : MFr h h' := ⟨fun c x y => f.1 c (by omega), fun k _ => f.i (by decide), f.2, fun c x => f.1 c (by omega)⟩
theorem c_X10_readSigns_ok {h : PH} {A : AS} (hG : GR h.2.2) (hM : MI h A) (hW : WF A) (hok : sgOk (aT A) (aN A)) : CtL mX10_readSigns h [pR (some 158)] (fun v h' => v = lN (tS (aP A) (aT A) (aN A)) ∧ MI h' (eA A) ∧ Fr 158 186 h h' ∧ (sgOk (aT A) (aN A) → ∀ w, w < aP A 0 2 0 → h'.2.1 182 w = lN (pS (aP A) (aT A) w (aN A)))) := by
  have bN := hW.1
  have bk := hW.wk
  have bc := hW.cs
  have bw := hW.wn
  have bt := hW.tn
  have bf := hW.fn
  have hn6 := hok.1
  refine Ct.of (L := [some (pR (some 158)), none, none, none, none, none, none]) rfl rfl (Nat.le_of_ble_eq_true rfl) rfl ?_
  refine J_aload_n dX10_readSigns_0 rfl ?_
  refine J_getI dX10_readSigns_1 fX10_110 s158 (fun _ => rfl) ?_
  refine J_cvI (hM.1.2) ?_
  refine J_istore_n (L' := [some (pR (some 158)), some (pI (nI (aN A))), none, none, none, none, none]) dX10_readSigns_4 (by decide) rfl ?_
  refine J_aload_n dX10_readSigns_5 rfl ?_
  refine J_iconstN (n := 0) dX10_readSigns_6 ?_
  refine J_putI dX10_readSigns_7 fX10_110 s158 rfl (vp_nar_int _) rfl (fun _ _ => rfl) ?_
  have hM : MI (sI h 158 1 (nI 0)) (eA A) := hM.emp
  have hF : Fr 158 186 h (sI h 158 1 (nI 0)) := Fr.sI (by decide) (by decide)
  generalize hg0 : sI h 158 1 (nI 0) = g0 at hM hF ⊢
  have hG : GR g0.2.2 := by rw [hF.2]; exact hG
  have hW0 := hW
  have hW : WF (eA A) := hW.emp
  refine J_iload_n dX10_readSigns_10 rfl ?_
  refine J_bipush (x := nI 6) dX10_readSigns_11 (by decide) ?_
  refine J_icmp_leN dX10_readSigns_13 (by omega) (by omega) (fun c1 => ?_) (fun c1 => ?_)
  · refine J_lconst (x := 0) dX10_readSigns_18 rfl ?_
    refine J_lstore_n (L' := [some (pR (some 158)), some (pI (nI (aN A))), some (pL 0), none, none, none, none]) dX10_readSigns_19 (by decide) rfl ?_
    refine J_iconstN (n := 0) dX10_readSigns_20 ?_
    refine J_istore (L' := [some (pR (some 158)), some (pI (nI (aN A))), some (pL 0), none, some (pI (nI 0)), none, none]) dX10_readSigns_21 (by decide) rfl ?_
    refine J_L (L' := [some (pR (some 158)), some (pI (nI (aN A))), some (pL (sL64 (fun w => lN (pS (aP A) (aT A) w (aN A))) 0)), none, some (pI (nI 0)), none, none]) rfl ?_
    have hM0 := hM
    have hG0 := hG
    have hF0 := hF
    refine J_forI (α := Unit) (L := fun i1 aa1 => [some (pR (some 158)), some (pI (nI (aN A))), some (pL (sL64 (fun w => lN (pS (aP A) (aT A) w (aN A))) i1)), none, some (pI (nI i1)), none, none]) (fun i1 aa1 h1 => (∀ j, j < i1 → h1.2.1 182 j = lN (pS (aP A) (aT A) j (aN A))) ∧ Fr 182 182 g0 h1) (e := aP A 0 2 0) (fun aa1 h1 hI1 => ?_) (fun i1 aa1 h1 hi1 hI1 ih1 => ?_) 0 (()) _ (by omega) (⟨fun j hj => absurd hj (Nat.not_lt_zero j), Fr.rf⟩)
    · show J _ _ _ _ _ [some (pR (some 158)), some (pI (nI (aN A))), some (pL (sL64 (fun w => lN (pS (aP A) (aT A) w (aN A))) (aP A 0 2 0))), none, some (pI (nI (aP A 0 2 0))), none, none] _ _ h1
      obtain ⟨hI2, hI3⟩ := hI1
      have hM := hM0.mq hI3.m182
      have hG := hI3.g hG0
      have hF := hF0.tr (hI3.mo (by decide) (by decide))
      refine J_iload dX10_readSigns_23 rfl ?_
      refine J_aload_n dX10_readSigns_25 rfl ?_
      refine J_getR (r := some 160) dX10_readSigns_26 fX10_17 s158 (fun _ => rfl) (g158_12 hG) ?_
      refine J_iconstN (n := 2) dX10_readSigns_29 ?_
      refine J_ialdN dX10_readSigns_30 s160 (by decide) (by omega) ?_
      refine J_cvI ((show _ = nI (aP A 0 2 0) from (hM.nm (k := 2) (by decide)))) ?_
      refine J_icmp_geN dX10_readSigns_31 (by omega) (by omega) (fun c2 => ?_) (fun c2 => ?_)
      · refine J_lload_n dX10_readSigns_128 rfl ?_
        exact J_retL dX10_readSigns_129 rfl ⟨by unfold tS; rw [if_pos hok]; exact sm_lN _, hM, hF, fun _ => hI2⟩
      · exact (show False by omega).elim
    · show J _ _ _ _ _ [some (pR (some 158)), some (pI (nI (aN A))), some (pL (sL64 (fun w => lN (pS (aP A) (aT A) w (aN A))) i1)), none, some (pI (nI i1)), none, none] _ _ h1
      obtain ⟨hI2, hI3⟩ := hI1
      have hM := hM0.mq hI3.m182
      have hG := hI3.g hG0
      have hF := hF0.tr (hI3.mo (by decide) (by decide))
      have bx := hW0.x hi1
      refine J_iload dX10_readSigns_23 rfl ?_
      refine J_aload_n dX10_readSigns_25 rfl ?_
      refine J_getR (r := some 160) dX10_readSigns_26 fX10_17 s158 (fun _ => rfl) (g158_12 hG) ?_
      refine J_iconstN (n := 2) dX10_readSigns_29 ?_
      refine J_ialdN dX10_readSigns_30 s160 (by decide) (by omega) ?_
      refine J_cvI ((show _ = nI (aP A 0 2 0) from (hM.nm (k := 2) (by decide)))) ?_
      refine J_icmp_geN dX10_readSigns_31 (by omega) (by omega) (fun c3 => ?_) (fun c3 => ?_)
      · exact (show False by omega).elim
      · refine J_aload_n dX10_readSigns_34 rfl ?_
        refine J_getR (r := some 182) dX10_readSigns_35 fX10_89 s158 (fun _ => rfl) (g158_46 hG) ?_
        refine J_iload dX10_readSigns_38 rfl ?_
        refine J_aload_n dX10_readSigns_40 rfl ?_
        refine J_iload dX10_readSigns_41 rfl ?_
        refine J_cVI (ci := 10) (c := 158) (as := [pI (nI i1)]) (st := [pI (nI i1), pR (some 182)]) dX10_readSigns_43 lX10_240 okX10_weight vX10_weight s158 (by decide) rfl rfl rfl (Nat.le_of_ble_eq_true rfl) ⟨Nat.le_of_ble_eq_true rfl, Nat.le_of_ble_eq_true rfl⟩ CR.f (c_X10_weight hG (by omega) (show _ = nI (aP A 1 i1 0) from hM.x hi1)) (fun vq4 gq4 eq4 => ?_)
        obtain ⟨rfl, fq4⟩ := eq4
        rw [fq4]
        refine J_i2lN dX10_readSigns_46 (by omega) ?_
        refine J_lastN dX10_readSigns_47 s182 (by decide) (by omega) ?_
        refine J_iconstN (n := 0) dX10_readSigns_48 ?_
        refine J_istore (L' := [some (pR (some 158)), some (pI (nI (aN A))), some (pL (sL64 (fun w => lN (pS (aP A) (aT A) w (aN A))) i1)), none, some (pI (nI i1)), some (pI (nI 0)), none]) dX10_readSigns_49 (by decide) rfl ?_
        refine J_L (L' := [some (pR (some 158)), some (pI (nI (aN A))), some (pL (sL64 (fun w => lN (pS (aP A) (aT A) w (aN A))) i1)), none, some (pI (nI i1)), some (pI (nI 0)), none]) rfl ?_
        refine J_forI (α := Unit) (L := fun i22 aa22 => [some (pR (some 158)), some (pI (nI (aN A))), some (pL (sL64 (fun w => lN (pS (aP A) (aT A) w (aN A))) i1)), none, some (pI (nI i1)), some (pI (nI i22)), none]) (fun i22 aa22 h22 => h22.2.1 182 i1 = lN (pS (aP A) (aT A) i1 i22) ∧ (∀ j, j < i1 → h22.2.1 182 j = lN (pS (aP A) (aT A) j (aN A))) ∧ Fr 182 182 g0 h22) (e := aN A) (fun aa22 h22 hI22 => ?_) (fun i22 aa22 h22 hi22 hI22 ih22 => ?_) 0 (()) _ (by omega) (⟨rL_s, fun j hj => (rL_k (by omega)).trans (hI2 j hj), hI3.tr (Fr.sL (by decide) (by decide))⟩)
        · show J _ _ _ _ _ [some (pR (some 158)), some (pI (nI (aN A))), some (pL (sL64 (fun w => lN (pS (aP A) (aT A) w (aN A))) i1)), none, some (pI (nI i1)), some (pI (nI (aN A))), none] _ _ h22
          obtain ⟨hI4, hI5, hI6⟩ := hI22
          have hM := hM0.mq hI6.m182
          have hG := hI6.g hG0
          refine J_iload dX10_readSigns_51 rfl ?_
          refine J_iload_n dX10_readSigns_53 rfl ?_
          refine J_icmp_geN dX10_readSigns_54 (by omega) (by omega) (fun c5 => ?_) (fun c5 => ?_)
          · refine J_lload_n dX10_readSigns_112 rfl ?_
            refine J_aload_n dX10_readSigns_113 rfl ?_
            refine J_getR (r := some 182) dX10_readSigns_114 fX10_89 s158 (fun _ => rfl) (g158_46 hG) ?_
            refine J_iload dX10_readSigns_117 rfl ?_
            refine J_laldN dX10_readSigns_119 s182 (by decide) (by omega) ?_
            refine J_cvL (hI4) ?_
            refine J_ladd dX10_readSigns_120 ?_
            refine J_lstore_n (L' := [some (pR (some 158)), some (pI (nI (aN A))), some (pL ((sL64 (fun w => lN (pS (aP A) (aT A) w (aN A))) i1) + (lN (pS (aP A) (aT A) i1 (aN A))))), none, some (pI (nI i1)), some (pI (nI (aN A))), none]) dX10_readSigns_121 (by decide) rfl ?_
            refine J_iincN (n := 1) (L' := [some (pR (some 158)), some (pI (nI (aN A))), some (pL ((sL64 (fun w => lN (pS (aP A) (aT A) w (aN A))) i1) + (lN (pS (aP A) (aT A) i1 (aN A))))), none, some (pI (nI (i1 + 1))), some (pI (nI (aN A))), none]) dX10_readSigns_122 rfl (by decide) rfl ?_
            refine J_goto dX10_readSigns_125 ?_
            refine J_drop (L' := [some (pR (some 158)), some (pI (nI (aN A))), some (pL ((sL64 (fun w => lN (pS (aP A) (aT A) w (aN A))) i1) + (lN (pS (aP A) (aT A) i1 (aN A))))), none, some (pI (nI (i1 + 1))), none, none]) 5 rfl ?_
            refine J_L (L' := [some (pR (some 158)), some (pI (nI (aN A))), some (pL (sL64 (fun w => lN (pS (aP A) (aT A) w (aN A))) (i1 + 1))), none, some (pI (nI (i1 + 1))), none, none]) rfl ?_
            exact ih1 () _ ⟨fun j hj => by
          by_cases q : j = i1
          · subst q; exact hI4
          · exact hI5 j (by omega), hI6⟩
          · exact (show False by omega).elim
        · show J _ _ _ _ _ [some (pR (some 158)), some (pI (nI (aN A))), some (pL (sL64 (fun w => lN (pS (aP A) (aT A) w (aN A))) i1)), none, some (pI (nI i1)), some (pI (nI i22)), none] _ _ h22
          obtain ⟨hI4, hI5, hI6⟩ := hI22
          have hM := hM0.mq hI6.m182
          have hG := hI6.g hG0
          have hs := sgv_eq (hok.2 i22 (by omega))
          have hb := hW0.sg hi1 (k := sgv (aT A) i22 + 1) (by omega)
          refine J_iload dX10_readSigns_51 rfl ?_
          refine J_iload_n dX10_readSigns_53 rfl ?_
          refine J_icmp_geN dX10_readSigns_54 (by omega) (by omega) (fun c6 => ?_) (fun c6 => ?_)
          · exact (show False by omega).elim
          · refine J_aload_n dX10_readSigns_57 rfl ?_
            refine J_getR (r := some 159) dX10_readSigns_58 fX10_7 s158 (fun _ => rfl) (g158_0 hG) ?_
            refine J_iload dX10_readSigns_61 rfl ?_
            refine J_baldN dX10_readSigns_63 s159 (by decide) (by omega) ?_
            refine J_cvI ((show _ = aT A i22 from hM.1.1 i22 (by omega))) ?_
            refine J_bipush (x := nI 48) dX10_readSigns_64 (by decide) ?_
            refine J_isub dX10_readSigns_66 ?_
            refine J_cvI (y := nI (sgv (aT A) i22)) hs.1 ?_
            refine J_istore (L' := [some (pR (some 158)), some (pI (nI (aN A))), some (pL (sL64 (fun w => lN (pS (aP A) (aT A) w (aN A))) i1)), none, some (pI (nI i1)), some (pI (nI i22)), some (pI (nI (sgv (aT A) i22)))]) dX10_readSigns_67 (by decide) rfl ?_
            refine J_iload dX10_readSigns_69 rfl ?_
            refine J_iconstN (n := 0) dX10_readSigns_71 ?_
            refine J_iconstN (n := 2) dX10_readSigns_72 ?_
            refine J_cSI (as := [pI (nI (sgv (aT A) i22)), pI (nI 0), pI (nI 2)]) (st := []) dX10_readSigns_73 lX10_172 okX10_in sX10_in rfl rfl (Nat.le_of_ble_eq_true rfl) ⟨Nat.le_of_ble_eq_true rfl, Nat.le_of_ble_eq_true rfl⟩ CR.f (c_X10_in) (fun vq7 gq7 eq7 => ?_)
            obtain ⟨rfl, fq7⟩ := eq7
            rw [fq7]
            refine J_cvI (bI_congr (inN (by omega) (by omega) (by omega))) ?_
            refine J_if_neB dX10_readSigns_76 (fun c8 => ?_) (fun c8 => ?_)
            · refine J_aload_n dX10_readSigns_81 rfl ?_
              refine J_getR (r := some 182) dX10_readSigns_82 fX10_89 s158 (fun _ => rfl) (g158_46 hG) ?_
              refine J_iload dX10_readSigns_85 rfl ?_
              refine J_dup2 dX10_readSigns_87 rfl rfl ?_
              refine J_laldN dX10_readSigns_88 s182 (by decide) (by omega) ?_
              refine J_cvL (hI4) ?_
              refine J_aload_n dX10_readSigns_89 rfl ?_
              refine J_getR (r := some 164) dX10_readSigns_90 fX10_31 s158 (fun _ => rfl) (g158_16 hG) ?_
              refine J_iconstN (n := 4) dX10_readSigns_93 ?_
              refine J_iload dX10_readSigns_94 rfl ?_
              refine J_imulN dX10_readSigns_96 ?_
              refine J_iconstN (n := 1) dX10_readSigns_97 ?_
              refine J_iaddN dX10_readSigns_98 ?_
              refine J_iload dX10_readSigns_99 rfl ?_
              refine J_iaddN dX10_readSigns_101 ?_
              refine J_ialdN dX10_readSigns_102 s164 (by decide) (by omega) ?_
              refine J_cvI ((show _ = nI (aP A 1 i1 (sgv (aT A) i22 + 1)) from (by rw [show 4 * i1 + 1 + sgv (aT A) i22 = 4 * i1 + (sgv (aT A) i22 + 1) by omega]; exact hM.sg hi1 (by omega)))) ?_
              refine J_i2lN dX10_readSigns_103 (by omega) ?_
              refine J_lmul dX10_readSigns_104 ?_
              refine J_cvL (y := lN (pS (aP A) (aT A) i1 (i22 + 1))) (lN_mul _ _) ?_
              refine J_lastN dX10_readSigns_105 s182 (by decide) (by omega) ?_
              refine J_iincN (n := 1) (L' := [some (pR (some 158)), some (pI (nI (aN A))), some (pL (sL64 (fun w => lN (pS (aP A) (aT A) w (aN A))) i1)), none, some (pI (nI i1)), some (pI (nI (i22 + 1))), some (pI (nI (sgv (aT A) i22)))]) dX10_readSigns_106 rfl (by decide) rfl ?_
              refine J_goto dX10_readSigns_109 ?_
              refine J_drop (L' := [some (pR (some 158)), some (pI (nI (aN A))), some (pL (sL64 (fun w => lN (pS (aP A) (aT A) w (aN A))) i1)), none, some (pI (nI i1)), some (pI (nI (i22 + 1))), none]) 6 rfl ?_
              exact ih22 () _ ⟨rL_s, fun j hj => (rL_k (by omega)).trans (hI5 j hj), hI6.tr (Fr.sL (by decide) (by decide))⟩
            · exact (show False by omega).elim
  · exact (show False by omega).elim
theorem c_X10_readSigns_no {h : PH} {A : AS} (hG : GR h.2.2) (hM : MI h A) (hW : WF A) (hok : ¬ sgOk (aT A) (aN A)) : CtL mX10_readSigns h [pR (some 158)] (fun v h' => v = lN (tS (aP A) (aT A) (aN A)) ∧ MI h' (eA A) ∧ Fr 158 186 h h' ∧ (sgOk (aT A) (aN A) → ∀ w, w < aP A 0 2 0 → h'.2.1 182 w = lN (pS (aP A) (aT A) w (aN A)))) := by
  have bN := hW.1
  have bk := hW.wk
  have bc := hW.cs
  have bw := hW.wn
  have bt := hW.tn
  have bf := hW.fn
  refine Ct.of (L := [some (pR (some 158)), none, none, none, none, none, none]) rfl rfl (Nat.le_of_ble_eq_true rfl) rfl ?_
  refine J_aload_n dX10_readSigns_0 rfl ?_
  refine J_getI dX10_readSigns_1 fX10_110 s158 (fun _ => rfl) ?_
  refine J_cvI (hM.1.2) ?_
  refine J_istore_n (L' := [some (pR (some 158)), some (pI (nI (aN A))), none, none, none, none, none]) dX10_readSigns_4 (by decide) rfl ?_
  refine J_aload_n dX10_readSigns_5 rfl ?_
  refine J_iconstN (n := 0) dX10_readSigns_6 ?_
  refine J_putI dX10_readSigns_7 fX10_110 s158 rfl (vp_nar_int _) rfl (fun _ _ => rfl) ?_
  have hM : MI (sI h 158 1 (nI 0)) (eA A) := hM.emp
  have hF : Fr 158 186 h (sI h 158 1 (nI 0)) := Fr.sI (by decide) (by decide)
  generalize hg0 : sI h 158 1 (nI 0) = g0 at hM hF ⊢
  have hG : GR g0.2.2 := by rw [hF.2]; exact hG
  have hW0 := hW
  have hW : WF (eA A) := hW.emp
  refine J_iload_n dX10_readSigns_10 rfl ?_
  refine J_bipush (x := nI 6) dX10_readSigns_11 (by decide) ?_
  refine J_icmp_leN dX10_readSigns_13 (by omega) (by omega) (fun c1 => ?_) (fun c1 => ?_)
  · refine J_lconst (x := 0) dX10_readSigns_18 rfl ?_
    refine J_lstore_n (L' := [some (pR (some 158)), some (pI (nI (aN A))), some (pL 0), none, none, none, none]) dX10_readSigns_19 (by decide) rfl ?_
    refine J_iconstN (n := 0) dX10_readSigns_20 ?_
    refine J_istore (L' := [some (pR (some 158)), some (pI (nI (aN A))), some (pL 0), none, some (pI (nI 0)), none, none]) dX10_readSigns_21 (by decide) rfl ?_
    refine J_L (L' := [some (pR (some 158)), some (pI (nI (aN A))), some (pL 0), none, some (pI (nI 0)), none, none]) rfl ?_
    have hM0 := hM
    have hG0 := hG
    have hF0 := hF
    refine J_forI (α := Unit) (L := fun i1 aa1 => [some (pR (some 158)), some (pI (nI (aN A))), some (pL 0), none, some (pI (nI i1)), none, none]) (fun i1 aa1 h1 => i1 = 0 ∧ Fr 182 182 g0 h1) (e := aP A 0 2 0) (fun aa1 h1 hI1 => ?_) (fun i1 aa1 h1 hi1 hI1 ih1 => ?_) 0 (()) _ (by omega) (⟨rfl, Fr.rf⟩)
    · show J _ _ _ _ _ [some (pR (some 158)), some (pI (nI (aN A))), some (pL 0), none, some (pI (nI (aP A 0 2 0))), none, none] _ _ h1
      obtain ⟨hI2, hI3⟩ := hI1
      have hM := hM0.mq hI3.m182
      have hG := hI3.g hG0
      have hF := hF0.tr (hI3.mo (by decide) (by decide))
      refine J_iload dX10_readSigns_23 rfl ?_
      refine J_aload_n dX10_readSigns_25 rfl ?_
      refine J_getR (r := some 160) dX10_readSigns_26 fX10_17 s158 (fun _ => rfl) (g158_12 hG) ?_
      refine J_iconstN (n := 2) dX10_readSigns_29 ?_
      refine J_ialdN dX10_readSigns_30 s160 (by decide) (by omega) ?_
      refine J_cvI ((show _ = nI (aP A 0 2 0) from (hM.nm (k := 2) (by decide)))) ?_
      refine J_icmp_geN dX10_readSigns_31 (by omega) (by omega) (fun c2 => ?_) (fun c2 => ?_)
      · refine J_lload_n dX10_readSigns_128 rfl ?_
        exact J_retL dX10_readSigns_129 rfl ⟨by unfold tS; rw [if_neg hok]; rfl, hM, hF, fun z => absurd z hok⟩
      · exact (show False by omega).elim
    · show J _ _ _ _ _ [some (pR (some 158)), some (pI (nI (aN A))), some (pL 0), none, some (pI (nI i1)), none, none] _ _ h1
      obtain ⟨hI2, hI3⟩ := hI1
      have hM := hM0.mq hI3.m182
      have hG := hI3.g hG0
      have hF := hF0.tr (hI3.mo (by decide) (by decide))
      have bx := hW0.x hi1
      refine J_iload dX10_readSigns_23 rfl ?_
      refine J_aload_n dX10_readSigns_25 rfl ?_
      refine J_getR (r := some 160) dX10_readSigns_26 fX10_17 s158 (fun _ => rfl) (g158_12 hG) ?_
      refine J_iconstN (n := 2) dX10_readSigns_29 ?_
      refine J_ialdN dX10_readSigns_30 s160 (by decide) (by omega) ?_
      refine J_cvI ((show _ = nI (aP A 0 2 0) from (hM.nm (k := 2) (by decide)))) ?_
      refine J_icmp_geN dX10_readSigns_31 (by omega) (by omega) (fun c3 => ?_) (fun c3 => ?_)
      · exact (show False by omega).elim
      · refine J_aload_n dX10_readSigns_34 rfl ?_
        refine J_getR (r := some 182) dX10_readSigns_35 fX10_89 s158 (fun _ => rfl) (g158_46 hG) ?_
        refine J_iload dX10_readSigns_38 rfl ?_
        refine J_aload_n dX10_readSigns_40 rfl ?_
        refine J_iload dX10_readSigns_41 rfl ?_
        refine J_cVI (ci := 10) (c := 158) (as := [pI (nI i1)]) (st := [pI (nI i1), pR (some 182)]) dX10_readSigns_43 lX10_240 okX10_weight vX10_weight s158 (by decide) rfl rfl rfl (Nat.le_of_ble_eq_true rfl) ⟨Nat.le_of_ble_eq_true rfl, Nat.le_of_ble_eq_true rfl⟩ CR.f (c_X10_weight hG (by omega) (show _ = nI (aP A 1 i1 0) from hM.x hi1)) (fun vq4 gq4 eq4 => ?_)
        obtain ⟨rfl, fq4⟩ := eq4
        rw [fq4]
        refine J_i2lN dX10_readSigns_46 (by omega) ?_
        refine J_lastN dX10_readSigns_47 s182 (by decide) (by omega) ?_
        refine J_iconstN (n := 0) dX10_readSigns_48 ?_
        refine J_istore (L' := [some (pR (some 158)), some (pI (nI (aN A))), some (pL 0), none, some (pI (nI i1)), some (pI (nI 0)), none]) dX10_readSigns_49 (by decide) rfl ?_
        refine J_L (L' := [some (pR (some 158)), some (pI (nI (aN A))), some (pL 0), none, some (pI (nI i1)), some (pI (nI 0)), none]) rfl ?_
        refine J_forI (α := Unit) (L := fun i22 aa22 => [some (pR (some 158)), some (pI (nI (aN A))), some (pL 0), none, some (pI (nI i1)), some (pI (nI i22)), none]) (fun i22 aa22 h22 => (∀ j, j < i22 → inR (aT A j - nI 48) 3) ∧ Fr 182 182 g0 h22) (e := aN A) (fun aa22 h22 hI22 => absurd ⟨by omega, hI22.1⟩ hok) (fun i22 aa22 h22 hi22 hI22 ih22 => ?_) 0 () _ (by omega) (⟨fun j hj => absurd hj (Nat.not_lt_zero j), hI3.tr (Fr.sL (by decide) (by decide))⟩)
        show J _ _ _ _ _ [some (pR (some 158)), some (pI (nI (aN A))), some (pL 0), none, some (pI (nI i1)), some (pI (nI i22)), none] _ _ h22
        obtain ⟨hI4, hI6⟩ := hI22
        have hM := hM0.mq hI6.m182
        have hG := hI6.g hG0
        have hF := hF0.tr (hI6.mo (by decide) (by decide))
        refine J_iload dX10_readSigns_51 rfl ?_
        refine J_iload_n dX10_readSigns_53 rfl ?_
        refine J_icmp_geN dX10_readSigns_54 (by omega) (by omega) (fun c5 => ?_) (fun c5 => ?_)
        · exact (show False by omega).elim
        · refine J_aload_n dX10_readSigns_57 rfl ?_
          refine J_getR (r := some 159) dX10_readSigns_58 fX10_7 s158 (fun _ => rfl) (g158_0 hG) ?_
          refine J_iload dX10_readSigns_61 rfl ?_
          refine J_baldN dX10_readSigns_63 s159 (by decide) (by omega) ?_
          refine J_cvI ((show _ = aT A i22 from hM.1.1 i22 (by omega))) ?_
          refine J_bipush (x := nI 48) dX10_readSigns_64 (by decide) ?_
          refine J_isub dX10_readSigns_66 ?_
          by_cases d0 : inR (aT A i22 - nI 48) 3
          · have hs := sgv_eq d0
            have hb := hW0.sg hi1 (k := sgv (aT A) i22 + 1) (by omega)
            refine J_cvI (y := nI (sgv (aT A) i22)) hs.1 ?_
            refine J_istore (L' := [some (pR (some 158)), some (pI (nI (aN A))), some (pL 0), none, some (pI (nI i1)), some (pI (nI i22)), some (pI (nI (sgv (aT A) i22)))]) dX10_readSigns_67 (by decide) rfl ?_
            refine J_iload dX10_readSigns_69 rfl ?_
            refine J_iconstN (n := 0) dX10_readSigns_71 ?_
            refine J_iconstN (n := 2) dX10_readSigns_72 ?_
            refine J_cSI (as := [pI (nI (sgv (aT A) i22)), pI (nI 0), pI (nI 2)]) (st := []) dX10_readSigns_73 lX10_172 okX10_in sX10_in rfl rfl (Nat.le_of_ble_eq_true rfl) ⟨Nat.le_of_ble_eq_true rfl, Nat.le_of_ble_eq_true rfl⟩ CR.f (c_X10_in) (fun vq6 gq6 eq6 => ?_)
            obtain ⟨rfl, fq6⟩ := eq6
            rw [fq6]
            refine J_cvI (bI_congr (inN (by omega) (by omega) (by omega))) ?_
            refine J_if_neB dX10_readSigns_76 (fun c7 => ?_) (fun c7 => ?_)
            · refine J_aload_n dX10_readSigns_81 rfl ?_
              refine J_getR (r := some 182) dX10_readSigns_82 fX10_89 s158 (fun _ => rfl) (g158_46 hG) ?_
              refine J_iload dX10_readSigns_85 rfl ?_
              refine J_dup2 dX10_readSigns_87 rfl rfl ?_
              refine J_laldN dX10_readSigns_88 s182 (by decide) (by omega) ?_
              refine J_aload_n dX10_readSigns_89 rfl ?_
              refine J_getR (r := some 164) dX10_readSigns_90 fX10_31 s158 (fun _ => rfl) (g158_16 hG) ?_
              refine J_iconstN (n := 4) dX10_readSigns_93 ?_
              refine J_iload dX10_readSigns_94 rfl ?_
              refine J_imulN dX10_readSigns_96 ?_
              refine J_iconstN (n := 1) dX10_readSigns_97 ?_
              refine J_iaddN dX10_readSigns_98 ?_
              refine J_iload dX10_readSigns_99 rfl ?_
              refine J_iaddN dX10_readSigns_101 ?_
              refine J_ialdN dX10_readSigns_102 s164 (by decide) (by omega) ?_
              refine J_cvI ((show _ = nI (aP A 1 i1 (sgv (aT A) i22 + 1)) from (by rw [show 4 * i1 + 1 + sgv (aT A) i22 = 4 * i1 + (sgv (aT A) i22 + 1) by omega]; exact hM.sg hi1 (by omega)))) ?_
              refine J_i2lN dX10_readSigns_103 (by omega) ?_
              refine J_lmul dX10_readSigns_104 ?_
              refine J_lastN dX10_readSigns_105 s182 (by decide) (by omega) ?_
              refine J_iincN (n := 1) (L' := [some (pR (some 158)), some (pI (nI (aN A))), some (pL 0), none, some (pI (nI i1)), some (pI (nI (i22 + 1))), some (pI (nI (sgv (aT A) i22)))]) dX10_readSigns_106 rfl (by decide) rfl ?_
              refine J_goto dX10_readSigns_109 ?_
              refine J_drop (L' := [some (pR (some 158)), some (pI (nI (aN A))), some (pL 0), none, some (pI (nI i1)), some (pI (nI (i22 + 1))), none]) 6 rfl ?_
              exact ih22 () _ ⟨fun j hj => by
            by_cases q : j = i22
            · subst q; rw [hs.1]; exact inR_nI hs.2 (by omega)
            · exact hI4 j (by omega), hI6.tr (Fr.sL (by decide) (by decide))⟩
            · exact (show False by omega).elim
          · refine J_istore (L' := [some (pR (some 158)), some (pI (nI (aN A))), some (pL 0), none, some (pI (nI i1)), some (pI (nI i22)), some (pI ((aT A i22) - (nI 48)))]) dX10_readSigns_67 (by decide) rfl ?_
            refine J_iload dX10_readSigns_69 rfl ?_
            refine J_iconstN (n := 0) dX10_readSigns_71 ?_
            refine J_iconstN (n := 2) dX10_readSigns_72 ?_
            refine J_cSI (as := [pI ((aT A i22) - (nI 48)), pI (nI 0), pI (nI 2)]) (st := []) dX10_readSigns_73 lX10_172 okX10_in sX10_in rfl rfl (Nat.le_of_ble_eq_true rfl) ⟨Nat.le_of_ble_eq_true rfl, Nat.le_of_ble_eq_true rfl⟩ CR.f (c_X10_in) (fun vq8 gq8 eq8 => ?_)
            obtain ⟨rfl, fq8⟩ := eq8
            rw [fq8]
            refine J_cvI (bI_congr (in_iffN (b := 2) (by decide))) ?_
            refine J_if_neB dX10_readSigns_76 (fun c9 => ?_) (fun c9 => ?_)
            · exact absurd c9 d0
            · refine J_lconst (x := 0) dX10_readSigns_79 rfl ?_
              exact J_retL dX10_readSigns_80 rfl ⟨by unfold tS; rw [if_neg hok]; rfl, hM, hF, fun z => absurd z hok⟩
  · refine J_lconst (x := 0) dX10_readSigns_16 rfl ?_
    exact J_retL dX10_readSigns_17 rfl ⟨by unfold tS; rw [if_neg hok]; rfl, hM, hF, fun z => absurd z hok⟩
theorem c_X10_readSigns {h : PH} {A : AS} (hG : GR h.2.2) (hM : MI h A) (hW : WF A) : CtL mX10_readSigns h [pR (some 158)] (fun v h' => v = lN (tS (aP A) (aT A) (aN A)) ∧ MI h' (eA A) ∧ Fr 158 186 h h' ∧ (sgOk (aT A) (aN A) → ∀ w, w < aP A 0 2 0 → h'.2.1 182 w = lN (pS (aP A) (aT A) w (aN A)))) := by
  by_cases hok : sgOk (aT A) (aN A)
  · exact c_X10_readSigns_ok hG hM hW hok
  · exact c_X10_readSigns_no hG hM hW hok
