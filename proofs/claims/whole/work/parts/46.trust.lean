theorem c_X10_think_in {h : PH} {A : AS} {w b : Nat} (hG : GR h.2.2) (hM : MI h A) (hW : WF A) (hw : w < aP A 0 2 0) (hb : b < 2) : CtL mX10_think h [pR (some 158), pI (nI w), pI (nI b)] (fun v h' => v = (if tS (aP A) (aT A) (aN A) = 0 then -1 else lstA (pS (aP A) (aT A) w (aN A)) (tS (aP A) (aT A) (aN A)) b) ∧ MP h h' (eA A)) := by
  have bN := hW.1
  have bk := hW.wk
  have bc := hW.cs
  have bw := hW.wn
  have bt := hW.tn
  have bf := hW.fn
  have bT := tS_b hW (T := aT A) (n := aN A)
  refine Ct.of (L := [some (pR (some 158)), some (pI (nI w)), some (pI (nI b)), none, none]) rfl rfl (Nat.le_of_ble_eq_true rfl) rfl ?_
  refine J_aload_n dX10_think_0 rfl ?_
  refine J_cVL (ci := 10) (c := 158) (as := []) (st := []) dX10_think_1 lX10_354 okX10_readSigns vX10_readSigns s158 (by decide) rfl rfl rfl (Nat.le_of_ble_eq_true rfl) ⟨Nat.le_of_ble_eq_true rfl, Nat.le_of_ble_eq_true rfl⟩ CR.f (c_X10_readSigns hG hM hW) (fun v0 g0 e0 => ?_)
  obtain ⟨rfl, hM, hF, zp⟩ := e0
  have hG : GR g0.2.2 := by rw [hF.2]; exact hG
  have hW0 := hW
  have hW : WF (eA A) := hW.emp
  refine J_lstore_n (L' := [some (pR (some 158)), some (pI (nI w)), some (pI (nI b)), some (pL (lN (tS (aP A) (aT A) (aN A)))), none]) dX10_think_4 (by decide) rfl ?_
  refine J_aload_n dX10_think_5 rfl ?_
  refine J_iload_n dX10_think_6 rfl ?_
  refine J_cVI (ci := 10) (c := 158) (as := [pI (nI w)]) (st := []) dX10_think_7 lX10_237 okX10_isWinter vX10_isWinter s158 (by decide) rfl rfl rfl (Nat.le_of_ble_eq_true rfl) ⟨Nat.le_of_ble_eq_true rfl, Nat.le_of_ble_eq_true rfl⟩ CR.f (c_X10_isWinter (n := aP A 0 2 0) hG (hM.nm (by decide)) (by omega)) (fun vq1 gq1 eq1 => ?_)
  obtain ⟨rfl, fq1⟩ := eq1
  rw [fq1]
  refine J_cvI (bI_congr (inR_nI_iff (by omega))) ?_
  refine J_if_neB dX10_think_10 (fun c2 => ?_) (fun c2 => ?_)
  · refine J_lload_n dX10_think_17 rfl ?_
    refine J_lconst (x := 0) dX10_think_18 rfl ?_
    refine J_lcmp dX10_think_19 ?_
    refine J_lif_ne dX10_think_20 (fun c3 => ?_) (fun c3 => ?_)
    · have hz : ¬ tS (aP A) (aT A) (aN A) = 0 := fun z => c3 (by rw [z]; rfl)
      have hok := tS_ok hz
      refine J_aload_n dX10_think_29 rfl ?_
      refine J_getR (r := some 182) dX10_think_30 fX10_89 s158 (fun _ => rfl) (g158_46 hG) ?_
      refine J_iload_n dX10_think_33 rfl ?_
      refine J_laldN dX10_think_34 s182 (by decide) (by omega) ?_
      refine J_cvL ((show _ = lN (pS (aP A) (aT A) w (aN A)) from zp hok w hw)) ?_
      refine J_lload_n dX10_think_35 rfl ?_
      refine J_iload_n dX10_think_36 rfl ?_
      refine J_cSL (as := [pL (lN (pS (aP A) (aT A) w (aN A))), pL (lN (tS (aP A) (aT A) (aN A))), pI (nI b)]) (st := []) dX10_think_37 lX10_337 okX10_leastOf sX10_leastOf rfl rfl (Nat.le_of_ble_eq_true rfl) ⟨Nat.le_of_ble_eq_true rfl, Nat.le_of_ble_eq_true rfl⟩ CR.f (c_X10_leastOf (by have := pS_c hW0 hw hok; omega) (by omega) (by omega) hb) (fun vq4 gq4 eq4 => ?_)
      obtain ⟨rfl, fq4⟩ := eq4
      rw [fq4]
      exact J_retL dX10_think_40 rfl ⟨(if_neg hz).symm, hM, hF⟩
    · have hz : tS (aP A) (aT A) (aN A) = 0 := (lN_z (by omega)).mp c3
      refine J_ldc2 dX10_think_23 kX10_358 ?_
      refine J_goto dX10_think_26 ?_
      exact J_retL dX10_think_40 rfl ⟨(if_pos hz).symm, hM, hF⟩
  · exact (show False by omega).elim
theorem c_X10_think_no {h : PH} {A : AS} {w : Int32} {b : Nat} (hG : GR h.2.2) (hM : MI h A) (hW : WF A) (hno : ¬ inR w (aP A 0 2 0)) : CtL mX10_think h [pR (some 158), pI w, pI (nI b)] (fun v h' => v = -2 ∧ MP h h' (eA A)) := by
  have bN := hW.1
  have bk := hW.wk
  have bc := hW.cs
  have bw := hW.wn
  have bt := hW.tn
  have bf := hW.fn
  refine Ct.of (L := [some (pR (some 158)), some (pI w), some (pI (nI b)), none, none]) rfl rfl (Nat.le_of_ble_eq_true rfl) rfl ?_
  refine J_aload_n dX10_think_0 rfl ?_
  refine J_cVL (ci := 10) (c := 158) (as := []) (st := []) dX10_think_1 lX10_354 okX10_readSigns vX10_readSigns s158 (by decide) rfl rfl rfl (Nat.le_of_ble_eq_true rfl) ⟨Nat.le_of_ble_eq_true rfl, Nat.le_of_ble_eq_true rfl⟩ CR.f (c_X10_readSigns hG hM hW) (fun v0 g0 e0 => ?_)
  obtain ⟨rfl, hM, hF, zp⟩ := e0
  have hG : GR g0.2.2 := by rw [hF.2]; exact hG
  have hW0 := hW
  have hW : WF (eA A) := hW.emp
  refine J_lstore_n (L' := [some (pR (some 158)), some (pI w), some (pI (nI b)), some (pL (lN (tS (aP A) (aT A) (aN A)))), none]) dX10_think_4 (by decide) rfl ?_
  refine J_aload_n dX10_think_5 rfl ?_
  refine J_iload_n dX10_think_6 rfl ?_
  refine J_cVI (ci := 10) (c := 158) (as := [pI w]) (st := []) dX10_think_7 lX10_237 okX10_isWinter vX10_isWinter s158 (by decide) rfl rfl rfl (Nat.le_of_ble_eq_true rfl) ⟨Nat.le_of_ble_eq_true rfl, Nat.le_of_ble_eq_true rfl⟩ CR.f (c_X10_isWinter (n := aP A 0 2 0) hG (hM.nm (by decide)) (by omega)) (fun vq1 gq1 eq1 => ?_)
  obtain ⟨rfl, fq1⟩ := eq1
  rw [fq1]
  refine J_if_neB dX10_think_10 (fun c2 => ?_) (fun c2 => ?_)
  · exact absurd c2 hno
  · refine J_ldc2 dX10_think_13 kX10_332 ?_
    exact J_retL dX10_think_16 rfl ⟨rfl, hM, hF⟩
theorem c_X10_think {h : PH} {A : AS} {w : Int32} {b : Nat} (hG : GR h.2.2) (hM : MI h A) (hW : WF A) (hb : b < 2) : CtL mX10_think h [pR (some 158), pI w, pI (nI b)] (fun v h' => v = thinkA A w b ∧ MP h h' (eA A)) := by
  by_cases hok : inR w (aP A 0 2 0)
  · obtain ⟨w, hw, rfl⟩ := inR_of hok
    have bt := hW.wn
    rw [thinkA, if_pos hok, cl, nI_clamp (by omega)]
    exact c_X10_think_in hG hM hW hw hb
  · rw [thinkA, if_neg hok]
    exact c_X10_think_no hG hM hW hok
theorem c_X10_after_in {h : PH} {A : AS} {t : Nat} (hG : GR h.2.2) (hM : MI h A) (hW : WF A) (ht : t < aP A 0 3 0) : CtI mX10_after h [pR (some 158), pI (nI t)] (fun v h' => v = (if tS (aP A) (aT A) (aN A) = 0 then -1 else nI (bst (afF A t) 40)) ∧ MP h h' (eA A)) := by
  have bN := hW.1
  have bk := hW.wk
  have bc := hW.cs
  have bw := hW.wn
  have bt := hW.tn
  have bf := hW.fn
  have bT := tS_b hW (T := aT A) (n := aN A)
  refine Ct.of (L := [some (pR (some 158)), some (pI (nI t)), none, none, none, none, none, none, none, none, none]) rfl rfl (Nat.le_of_ble_eq_true rfl) rfl ?_
  refine J_aload_n dX10_after_0 rfl ?_
  refine J_cVL (ci := 10) (c := 158) (as := []) (st := []) dX10_after_1 lX10_354 okX10_readSigns vX10_readSigns s158 (by decide) rfl rfl rfl (Nat.le_of_ble_eq_true rfl) ⟨Nat.le_of_ble_eq_true rfl, Nat.le_of_ble_eq_true rfl⟩ CR.f (c_X10_readSigns hG hM hW) (fun v0 g0 e0 => ?_)
  obtain ⟨rfl, hM, hF, zp⟩ := e0
  have hG : GR g0.2.2 := by rw [hF.2]; exact hG
  have hW0 := hW
  have hW : WF (eA A) := hW.emp
  refine J_lstore_n (L' := [some (pR (some 158)), some (pI (nI t)), some (pL (lN (tS (aP A) (aT A) (aN A)))), none, none, none, none, none, none, none, none]) dX10_after_4 (by decide) rfl ?_
  refine J_aload_n dX10_after_5 rfl ?_
  refine J_iload_n dX10_after_6 rfl ?_
  refine J_cVI (ci := 10) (c := 158) (as := [pI (nI t)]) (st := []) dX10_after_7 lX10_243 okX10_isThing vX10_isThing s158 (by decide) rfl rfl rfl (Nat.le_of_ble_eq_true rfl) ⟨Nat.le_of_ble_eq_true rfl, Nat.le_of_ble_eq_true rfl⟩ CR.f (c_X10_isThing (n := aP A 0 3 0) hG (hM.nm (by decide)) (by omega)) (fun vq1 gq1 eq1 => ?_)
  obtain ⟨rfl, fq1⟩ := eq1
  rw [fq1]
  refine J_cvI (bI_congr (inR_nI_iff (by omega))) ?_
  refine J_if_neB dX10_after_10 (fun c2 => ?_) (fun c2 => ?_)
  · refine J_lload_n dX10_after_16 rfl ?_
    refine J_lconst (x := 0) dX10_after_17 rfl ?_
    refine J_lcmp dX10_after_18 ?_
    refine J_lif_ne dX10_after_19 (fun c3 => ?_) (fun c3 => ?_)
    · have hz : ¬ tS (aP A) (aT A) (aN A) = 0 := fun z => c3 (by rw [z]; rfl)
      have hok := tS_ok hz
      refine J_iconst (x := -1) dX10_after_24 (by decide) ?_
      refine J_istore (L' := [some (pR (some 158)), some (pI (nI t)), some (pL (lN (tS (aP A) (aT A) (aN A)))), none, some (pI ((-1))), none, none, none, none, none, none]) dX10_after_25 (by decide) rfl ?_
      refine J_lconst (x := 0) dX10_after_27 rfl ?_
      refine J_lstore (L' := [some (pR (some 158)), some (pI (nI t)), some (pL (lN (tS (aP A) (aT A) (aN A)))), none, some (pI ((-1))), some (pL 0), none, none, none, none, none]) dX10_after_28 (by decide) rfl ?_
      refine J_iconstN (n := 0) dX10_after_30 ?_
      refine J_istore (L' := [some (pR (some 158)), some (pI (nI t)), some (pL (lN (tS (aP A) (aT A) (aN A)))), none, some (pI ((-1))), some (pL 0), none, some (pI (nI 0)), none, none, none]) dX10_after_31 (by decide) rfl ?_
      refine J_L (L' := [some (pR (some 158)), some (pI (nI t)), some (pL (lN (tS (aP A) (aT A) (aN A)))), none, some (pI (bsN (afF A t) 0)), some (pL (mst (afF A t) 0)), none, some (pI (nI 0)), none, none, none]) rfl ?_
      have hM0 := hM
      have hG0 := hG
      have hF0 := hF
      refine J_forI (α := Unit) (L := fun i1 aa1 => [some (pR (some 158)), some (pI (nI t)), some (pL (lN (tS (aP A) (aT A) (aN A)))), none, some (pI (bsN (afF A t) i1)), some (pL (mst (afF A t) i1)), none, some (pI (nI i1)), none, none, none]) (fun i1 aa1 h1 => FG g0 h1) (e := 41) (fun aa1 h1 hI1 => ?_) (fun i1 aa1 h1 hi1 hI1 ih1 => ?_) 0 (()) _ (by omega) (FG.rf)
      · show J _ _ _ _ _ [some (pR (some 158)), some (pI (nI t)), some (pL (lN (tS (aP A) (aT A) (aN A)))), none, some (pI (bsN (afF A t) 41)), some (pL (mst (afF A t) 41)), none, some (pI (nI 41)), none, none, none] _ _ h1
        have hM := hM0.mq (.of hI1)
        have hG := hI1.g hG0
        have hF := hF0.tr (MFr.of hI1).fr
        refine J_iload dX10_after_33 rfl ?_
        refine J_bipush (x := nI 40) dX10_after_35 (by decide) ?_
        refine J_icmp_gtN dX10_after_37 (by decide) (by decide) (fun c0 => ?_) (fun c0 => absurd c0 (by decide))
        refine J_iload dX10_after_116 rfl ?_
        exact J_retI dX10_after_118 rfl ⟨by rw [if_neg hz]; exact bsN_1, hM, hF⟩
      · show J _ _ _ _ _ [some (pR (some 158)), some (pI (nI t)), some (pL (lN (tS (aP A) (aT A) (aN A)))), none, some (pI (bsN (afF A t) i1)), some (pL (mst (afF A t) i1)), none, some (pI (nI i1)), none, none, none] _ _ h1
        have hM := hM0.mq (.of hI1)
        have hG := hI1.g hG0
        have hF := hF0.tr (MFr.of hI1).fr
        refine J_iload dX10_after_33 rfl ?_
        refine J_bipush (x := nI 40) dX10_after_35 (by decide) ?_
        refine J_icmp_gtN dX10_after_37 (by omega) (by omega) (fun c4 => ?_) (fun c4 => ?_)
        · exact (show False by omega).elim
        · refine J_lconst (x := 0) dX10_after_40 rfl ?_
          refine J_lstore (L' := [some (pR (some 158)), some (pI (nI t)), some (pL (lN (tS (aP A) (aT A) (aN A)))), none, some (pI (bsN (afF A t) i1)), some (pL (mst (afF A t) i1)), none, some (pI (nI i1)), some (pL 0), none, none]) dX10_after_41 (by decide) rfl ?_
          refine J_iconstN (n := 0) dX10_after_43 ?_
          refine J_istore (L' := [some (pR (some 158)), some (pI (nI t)), some (pL (lN (tS (aP A) (aT A) (aN A)))), none, some (pI (bsN (afF A t) i1)), some (pL (mst (afF A t) i1)), none, some (pI (nI i1)), some (pL 0), none, some (pI (nI 0))]) dX10_after_44 (by decide) rfl ?_
          refine J_L (L' := [some (pR (some 158)), some (pI (nI t)), some (pL (lN (tS (aP A) (aT A) (aN A)))), none, some (pI (bsN (afF A t) i1)), some (pL (mst (afF A t) i1)), none, some (pI (nI i1)), some (pL (sL64 (fun w => lN (pS (aP A) (aT A) w (aN A)) * sIn A t i1 w) 0)), none, some (pI (nI 0))]) rfl ?_
          refine J_forI (α := Unit) (L := fun i22 aa22 => [some (pR (some 158)), some (pI (nI t)), some (pL (lN (tS (aP A) (aT A) (aN A)))), none, some (pI (bsN (afF A t) i1)), some (pL (mst (afF A t) i1)), none, some (pI (nI i1)), some (pL (sL64 (fun w => lN (pS (aP A) (aT A) w (aN A)) * sIn A t i1 w) i22)), none, some (pI (nI i22))]) (fun i22 aa22 h22 => FG g0 h22) (e := aP A 0 2 0) (fun aa22 h22 hI22 => ?_) (fun i22 aa22 h22 hi22 hI22 ih22 => ?_) 0 (()) _ (by omega) (hI1)
          · show J _ _ _ _ _ [some (pR (some 158)), some (pI (nI t)), some (pL (lN (tS (aP A) (aT A) (aN A)))), none, some (pI (bsN (afF A t) i1)), some (pL (mst (afF A t) i1)), none, some (pI (nI i1)), some (pL (sL64 (fun w => lN (pS (aP A) (aT A) w (aN A)) * sIn A t i1 w) (aP A 0 2 0))), none, some (pI (nI (aP A 0 2 0)))] _ _ h22
            have hM := hM0.mq (.of hI22)
            have hG := hI22.g hG0
            refine J_iload dX10_after_46 rfl ?_
            refine J_aload_n dX10_after_48 rfl ?_
            refine J_getR (r := some 160) dX10_after_49 fX10_17 s158 (fun _ => rfl) (g158_12 hG) ?_
            refine J_iconstN (n := 2) dX10_after_52 ?_
            refine J_ialdN dX10_after_53 s160 (by decide) (by omega) ?_
            refine J_cvI ((show _ = nI (aP A 0 2 0) from (hM.nm (k := 2) (by decide)))) ?_
            refine J_icmp_geN dX10_after_54 (by omega) (by omega) (fun c5 => ?_) (fun c5 => ?_)
            · refine J_L (L' := [some (pR (some 158)), some (pI (nI t)), some (pL (lN (tS (aP A) (aT A) (aN A)))), none, some (pI (bsN (afF A t) i1)), some (pL (mst (afF A t) i1)), none, some (pI (nI i1)), some (pL (afF A t i1)), none, some (pI (nI (aP A 0 2 0)))]) rfl ?_
              refine J_iload dX10_after_85 rfl ?_
              refine J_iconst (x := -1) dX10_after_87 (by decide) ?_
              refine J_icmp_eq dX10_after_88 (fun k0 => ?_) (fun k0 => ?_)
              · refine J_iload dX10_after_102 rfl ?_
                refine J_istore (L' := [some (pR (some 158)), some (pI (nI t)), some (pL (lN (tS (aP A) (aT A) (aN A)))), none, some (pI (nI i1)), some (pL (mst (afF A t) i1)), none, some (pI (nI i1)), some (pL (afF A t i1)), none, some (pI (nI (aP A 0 2 0)))]) dX10_after_104 (by decide) rfl ?_
                refine J_lload dX10_after_106 rfl ?_
                refine J_lstore (L' := [some (pR (some 158)), some (pI (nI t)), some (pL (lN (tS (aP A) (aT A) (aN A)))), none, some (pI (nI i1)), some (pL (afF A t i1)), none, some (pI (nI i1)), some (pL (afF A t i1)), none, some (pI (nI (aP A 0 2 0)))]) dX10_after_108 (by decide) rfl ?_
                refine J_iincN (n := 1) (L' := [some (pR (some 158)), some (pI (nI t)), some (pL (lN (tS (aP A) (aT A) (aN A)))), none, some (pI (nI i1)), some (pL (afF A t i1)), none, some (pI (nI (i1 + 1))), some (pL (afF A t i1)), none, some (pI (nI (aP A 0 2 0)))]) dX10_after_110 rfl (by decide) rfl ?_
                refine J_goto dX10_after_113 ?_
                refine J_drop (L' := [some (pR (some 158)), some (pI (nI t)), some (pL (lN (tS (aP A) (aT A) (aN A)))), none, some (pI (nI i1)), some (pL (afF A t i1)), none, some (pI (nI (i1 + 1))), none, none, some (pI (nI (aP A 0 2 0)))]) 8 rfl ?_
                refine J_drop (L' := [some (pR (some 158)), some (pI (nI t)), some (pL (lN (tS (aP A) (aT A) (aN A)))), none, some (pI (nI i1)), some (pL (afF A t i1)), none, some (pI (nI (i1 + 1))), none, none, none]) 10 rfl ?_
                have K := ih1 () _ hI22
                rw [bsN_take (Or.inl ((bsN_m1 (by omega)).mp k0)), mst_take (Or.inl ((bsN_m1 (by omega)).mp k0))] at K
                exact K
              · refine J_lload dX10_after_91 rfl ?_
                refine J_lload dX10_after_93 rfl ?_
                refine J_lcmp dX10_after_95 ?_
                refine J_lif_gt dX10_after_96 (fun k1 => ?_) (fun k1 => ?_)
                · refine J_iload dX10_after_102 rfl ?_
                  refine J_istore (L' := [some (pR (some 158)), some (pI (nI t)), some (pL (lN (tS (aP A) (aT A) (aN A)))), none, some (pI (nI i1)), some (pL (mst (afF A t) i1)), none, some (pI (nI i1)), some (pL (afF A t i1)), none, some (pI (nI (aP A 0 2 0)))]) dX10_after_104 (by decide) rfl ?_
                  refine J_lload dX10_after_106 rfl ?_
                  refine J_lstore (L' := [some (pR (some 158)), some (pI (nI t)), some (pL (lN (tS (aP A) (aT A) (aN A)))), none, some (pI (nI i1)), some (pL (afF A t i1)), none, some (pI (nI i1)), some (pL (afF A t i1)), none, some (pI (nI (aP A 0 2 0)))]) dX10_after_108 (by decide) rfl ?_
                  refine J_iincN (n := 1) (L' := [some (pR (some 158)), some (pI (nI t)), some (pL (lN (tS (aP A) (aT A) (aN A)))), none, some (pI (nI i1)), some (pL (afF A t i1)), none, some (pI (nI (i1 + 1))), some (pL (afF A t i1)), none, some (pI (nI (aP A 0 2 0)))]) dX10_after_110 rfl (by decide) rfl ?_
                  refine J_goto dX10_after_113 ?_
                  refine J_drop (L' := [some (pR (some 158)), some (pI (nI t)), some (pL (lN (tS (aP A) (aT A) (aN A)))), none, some (pI (nI i1)), some (pL (afF A t i1)), none, some (pI (nI (i1 + 1))), none, none, some (pI (nI (aP A 0 2 0)))]) 8 rfl ?_
                  refine J_drop (L' := [some (pR (some 158)), some (pI (nI t)), some (pL (lN (tS (aP A) (aT A) (aN A)))), none, some (pI (nI i1)), some (pL (afF A t i1)), none, some (pI (nI (i1 + 1))), none, none, none]) 10 rfl ?_
                  have K := ih1 () _ hI22
                  rw [bsN_take (Or.inr k1), mst_take (Or.inr k1)] at K
                  exact K
                · refine J_goto dX10_after_99 ?_
                  refine J_iincN (n := 1) (L' := [some (pR (some 158)), some (pI (nI t)), some (pL (lN (tS (aP A) (aT A) (aN A)))), none, some (pI (bsN (afF A t) i1)), some (pL (mst (afF A t) i1)), none, some (pI (nI (i1 + 1))), some (pL (afF A t i1)), none, some (pI (nI (aP A 0 2 0)))]) dX10_after_110 rfl (by decide) rfl ?_
                  refine J_goto dX10_after_113 ?_
                  refine J_drop (L' := [some (pR (some 158)), some (pI (nI t)), some (pL (lN (tS (aP A) (aT A) (aN A)))), none, some (pI (bsN (afF A t) i1)), some (pL (mst (afF A t) i1)), none, some (pI (nI (i1 + 1))), none, none, some (pI (nI (aP A 0 2 0)))]) 8 rfl ?_
                  refine J_drop (L' := [some (pR (some 158)), some (pI (nI t)), some (pL (lN (tS (aP A) (aT A) (aN A)))), none, some (pI (bsN (afF A t) i1)), some (pL (mst (afF A t) i1)), none, some (pI (nI (i1 + 1))), none, none, none]) 10 rfl ?_
                  have K := ih1 () _ hI22
                  rw [bsN_keep (fun z => k0 ((bsN_m1 (by omega)).mpr z)) k1, mst_keep (fun z => k0 ((bsN_m1 (by omega)).mpr z)) k1] at K
                  exact K
            · exact (show False by omega).elim
          · show J _ _ _ _ _ [some (pR (some 158)), some (pI (nI t)), some (pL (lN (tS (aP A) (aT A) (aN A)))), none, some (pI (bsN (afF A t) i1)), some (pL (mst (afF A t) i1)), none, some (pI (nI i1)), some (pL (sL64 (fun w => lN (pS (aP A) (aT A) w (aN A)) * sIn A t i1 w) i22)), none, some (pI (nI i22))] _ _ h22
            have hM := hM0.mq (.of hI22)
            have hG := hI22.g hG0
            refine J_iload dX10_after_46 rfl ?_
            refine J_aload_n dX10_after_48 rfl ?_
            refine J_getR (r := some 160) dX10_after_49 fX10_17 s158 (fun _ => rfl) (g158_12 hG) ?_
            refine J_iconstN (n := 2) dX10_after_52 ?_
            refine J_ialdN dX10_after_53 s160 (by decide) (by omega) ?_
            refine J_cvI ((show _ = nI (aP A 0 2 0) from (hM.nm (k := 2) (by decide)))) ?_
            refine J_icmp_geN dX10_after_54 (by omega) (by omega) (fun c8 => ?_) (fun c8 => ?_)
            · exact (show False by omega).elim
            · refine J_lload dX10_after_57 rfl ?_
              refine J_aload_n dX10_after_59 rfl ?_
              refine J_getR (r := some 182) dX10_after_60 fX10_89 s158 (fun _ => rfl) (g158_46 hG) ?_
              refine J_iload dX10_after_63 rfl ?_
              refine J_laldN dX10_after_65 s182 (by decide) (by omega) ?_
              refine J_cvL (((hI22.l (by decide) (by decide) (by decide) (by decide)).trans (zp hok i22 hi22))) ?_
              refine J_aload_n dX10_after_66 rfl ?_
              refine J_iload_n dX10_after_67 rfl ?_
              refine J_iload dX10_after_68 rfl ?_
              refine J_iload dX10_after_70 rfl ?_
              refine J_cVL (ci := 10) (c := 158) (as := [pI (nI t), pI (nI i1), pI (nI i22)]) (st := [pL (lN (pS (aP A) (aT A) i22 (aN A))), pL (sL64 (fun w => lN (pS (aP A) (aT A) w (aN A)) * sIn A t i1 w) i22)]) dX10_after_72 lX10_317 okX10_scoreIn vX10_scoreIn s158 (by decide) rfl rfl rfl (Nat.le_of_ble_eq_true rfl) ⟨Nat.le_of_ble_eq_true rfl, Nat.le_of_ble_eq_true rfl⟩ CR.f (c_X10_scoreIn (sf := 0) (S := 0) (M := 0) (W := aP A 0 0 0) (a := aP A 2 t) (u := aV A t i22) (rk := aU A t 0) (rl := aU A t 1) hG (by omega) (hM.tma hW ht) (hM.nm (by decide)) (by omega) hM.k35 (by decide) (fun z => absurd rfl z) (by omega) (hM.wm hW ht (by omega)) (by omega)) (fun v2 g2 e2 => ?_)
              obtain ⟨rfl, -, f1⟩ := e2
              refine J_cvL (y := sIn A t i1 i22) (by rw [vF_eq (by omega) (Nat.zero_le _)]; rfl) ?_
              refine J_lmul dX10_after_75 ?_
              refine J_ladd dX10_after_76 ?_
              refine J_lstore (L' := [some (pR (some 158)), some (pI (nI t)), some (pL (lN (tS (aP A) (aT A) (aN A)))), none, some (pI (bsN (afF A t) i1)), some (pL (mst (afF A t) i1)), none, some (pI (nI i1)), some (pL ((sL64 (fun w => lN (pS (aP A) (aT A) w (aN A)) * sIn A t i1 w) i22) + ((lN (pS (aP A) (aT A) i22 (aN A))) * (sIn A t i1 i22)))), none, some (pI (nI i22))]) dX10_after_77 (by decide) rfl ?_
              refine J_iincN (n := 1) (L' := [some (pR (some 158)), some (pI (nI t)), some (pL (lN (tS (aP A) (aT A) (aN A)))), none, some (pI (bsN (afF A t) i1)), some (pL (mst (afF A t) i1)), none, some (pI (nI i1)), some (pL ((sL64 (fun w => lN (pS (aP A) (aT A) w (aN A)) * sIn A t i1 w) i22) + ((lN (pS (aP A) (aT A) i22 (aN A))) * (sIn A t i1 i22)))), none, some (pI (nI (i22 + 1)))]) dX10_after_79 rfl (by decide) rfl ?_
              refine J_goto dX10_after_82 ?_
              refine J_L (L' := [some (pR (some 158)), some (pI (nI t)), some (pL (lN (tS (aP A) (aT A) (aN A)))), none, some (pI (bsN (afF A t) i1)), some (pL (mst (afF A t) i1)), none, some (pI (nI i1)), some (pL (sL64 (fun w => lN (pS (aP A) (aT A) w (aN A)) * sIn A t i1 w) (i22 + 1))), none, some (pI (nI (i22 + 1)))]) rfl ?_
              exact ih22 () _ (hI22.tr f1)
    · have hz : tS (aP A) (aT A) (aN A) = 0 := (lN_z (by omega)).mp c3
      refine J_iconst (x := -1) dX10_after_22 (by decide) ?_
      exact J_retI dX10_after_23 rfl ⟨(if_pos hz).symm, hM, hF⟩
  · exact (show False by omega).elim
theorem c_X10_after_no {h : PH} {A : AS} {t : Int32} (hG : GR h.2.2) (hM : MI h A) (hW : WF A) (hno : ¬ inR t (aP A 0 3 0)) : CtI mX10_after h [pR (some 158), pI t] (fun v h' => v = -2 ∧ MP h h' (eA A)) := by
  have bN := hW.1
  have bk := hW.wk
  have bc := hW.cs
  have bw := hW.wn
  have bt := hW.tn
  have bf := hW.fn
  refine Ct.of (L := [some (pR (some 158)), some (pI t), none, none, none, none, none, none, none, none, none]) rfl rfl (Nat.le_of_ble_eq_true rfl) rfl ?_
  refine J_aload_n dX10_after_0 rfl ?_
  refine J_cVL (ci := 10) (c := 158) (as := []) (st := []) dX10_after_1 lX10_354 okX10_readSigns vX10_readSigns s158 (by decide) rfl rfl rfl (Nat.le_of_ble_eq_true rfl) ⟨Nat.le_of_ble_eq_true rfl, Nat.le_of_ble_eq_true rfl⟩ CR.f (c_X10_readSigns hG hM hW) (fun v0 g0 e0 => ?_)
  obtain ⟨rfl, hM, hF, zp⟩ := e0
  have hG : GR g0.2.2 := by rw [hF.2]; exact hG
  have hW0 := hW
  have hW : WF (eA A) := hW.emp
  refine J_lstore_n (L' := [some (pR (some 158)), some (pI t), some (pL (lN (tS (aP A) (aT A) (aN A)))), none, none, none, none, none, none, none, none]) dX10_after_4 (by decide) rfl ?_
  refine J_aload_n dX10_after_5 rfl ?_
  refine J_iload_n dX10_after_6 rfl ?_
  refine J_cVI (ci := 10) (c := 158) (as := [pI t]) (st := []) dX10_after_7 lX10_243 okX10_isThing vX10_isThing s158 (by decide) rfl rfl rfl (Nat.le_of_ble_eq_true rfl) ⟨Nat.le_of_ble_eq_true rfl, Nat.le_of_ble_eq_true rfl⟩ CR.f (c_X10_isThing (n := aP A 0 3 0) hG (hM.nm (by decide)) (by omega)) (fun vq1 gq1 eq1 => ?_)
  obtain ⟨rfl, fq1⟩ := eq1
  rw [fq1]
  refine J_if_neB dX10_after_10 (fun c2 => ?_) (fun c2 => ?_)
  · exact absurd c2 hno
  · refine J_bipush (x := (-2)) dX10_after_13 (by decide) ?_
    exact J_retI dX10_after_15 rfl ⟨rfl, hM, hF⟩
theorem c_X10_after {h : PH} {A : AS} {t : Int32} (hG : GR h.2.2) (hM : MI h A) (hW : WF A) : CtI mX10_after h [pR (some 158), pI t] (fun v h' => v = afterA A t ∧ MP h h' (eA A)) := by
  by_cases hok : inR t (aP A 0 3 0)
  · obtain ⟨t, ht, rfl⟩ := inR_of hok
    have bt := hW.tn
    rw [afterA, if_pos hok, cl, nI_clamp (by omega)]
    exact c_X10_after_in hG hM hW ht
  · rw [afterA, if_neg hok]
    exact c_X10_after_no hG hM hW hok
theorem c_X4_owedBy {h : PH} {p : Nat} {A : AS} {s : Nat} (hG : GR h.2.2) (hX : XI h p A) (hW : WF A) (hs : s < 64) : CtI mX4_owedBy h [pR (some p), pI (nI s)] (fun v h' => v = nI (owS (aP A) s (aP A 0 4 0)) ∧ h' = h) := by
  have bN := hW.1
  have bk := hW.wk
  have bc := hW.cs
  have bw := hW.wn
  have bt := hW.tn
  have bf := hW.fn
  refine Ct.of (L := [some (pR (some p)), some (pI (nI s)), none, none]) rfl rfl (Nat.le_of_ble_eq_true rfl) rfl ?_
  refine J_iconstN (n := 0) dX4_owedBy_0 ?_
  refine J_istore_n (L' := [some (pR (some p)), some (pI (nI s)), some (pI (nI 0)), none]) dX4_owedBy_1 (by decide) rfl ?_
  refine J_iconstN (n := 0) dX4_owedBy_2 ?_
  refine J_istore_n (L' := [some (pR (some p)), some (pI (nI s)), some (pI (nI 0)), some (pI (nI 0))]) dX4_owedBy_3 (by decide) rfl ?_
  refine J_L (L' := [some (pR (some p)), some (pI (nI s)), some (pI (nI (owS (aP A) s 0))), some (pI (nI 0))]) rfl ?_
  refine J_for (L := fun i => [some (pR (some p)), some (pI (nI s)), some (pI (nI (owS (aP A) s i))), some (pI (nI i))]) (hf := fun i => h) (e := aP A 0 4 0) ?_ (fun i hi ih => ?_) 0 (by omega)
  · show J _ _ _ _ _ [some (pR (some p)), some (pI (nI s)), some (pI (nI (owS (aP A) s (aP A 0 4 0)))), some (pI (nI (aP A 0 4 0)))] _ _ (h)
    refine J_iload_n dX4_owedBy_4 rfl ?_
    refine J_aload_n dX4_owedBy_5 rfl ?_
    refine J_getI dX4_owedBy_6 fX4_53 hX.po.s (fun _ => rfl) ?_
    refine J_cvI (hX.fn) ?_
    refine J_icmp_geN dX4_owedBy_9 (by omega) (by omega) (fun c1 => ?_) (fun c1 => ?_)
    · refine J_iload_n dX4_owedBy_39 rfl ?_
      exact J_retI dX4_owedBy_40 rfl ⟨rfl, rfl⟩
    · exact (show False by omega).elim
  · show J _ _ _ _ _ [some (pR (some p)), some (pI (nI s)), some (pI (nI (owS (aP A) s i))), some (pI (nI i))] _ _ (h)
    have hb2 := bt_lt s i
    have hf := hW.fm hi
    have hob := owS_b hW (s := s) i (by omega)
    refine J_iload_n dX4_owedBy_4 rfl ?_
    refine J_aload_n dX4_owedBy_5 rfl ?_
    refine J_getI dX4_owedBy_6 fX4_53 hX.po.s (fun _ => rfl) ?_
    refine J_cvI (hX.fn) ?_
    refine J_icmp_geN dX4_owedBy_9 (by omega) (by omega) (fun c2 => ?_) (fun c2 => ?_)
    · exact (show False by omega).elim
    · refine J_iload_n dX4_owedBy_12 rfl ?_
      refine J_iload_n dX4_owedBy_13 rfl ?_
      refine J_ishr dX4_owedBy_14 ?_
      refine J_iconstN (n := 1) dX4_owedBy_15 ?_
      refine J_iand dX4_owedBy_16 ?_
      refine J_cvI (y := nI (btN s i)) (bit_nI hs (by omega)) ?_
      refine J_iconstN (n := 1) dX4_owedBy_17 ?_
      refine J_icmp_neN dX4_owedBy_18 (by omega) (by omega) (fun c3 => ?_) (fun c3 => ?_)
      · refine J_iincN (n := 1) (L' := [some (pR (some p)), some (pI (nI s)), some (pI (nI (owS (aP A) s i))), some (pI (nI (i + 1)))]) dX4_owedBy_33 rfl (by decide) rfl ?_
        refine J_goto dX4_owedBy_36 ?_
        have K := ih
        rw [owS_0 c3] at K
        exact K
      · refine J_iload_n dX4_owedBy_21 rfl ?_
        refine J_aload_n dX4_owedBy_22 rfl ?_
        refine J_getR (r := some (p + 8)) dX4_owedBy_23 fX4_28 hX.po.s (fun _ => rfl) (hX.po.e11 hG) ?_
        refine J_iload_n dX4_owedBy_26 rfl ?_
        refine J_aald5N (r := some (p + 37 + i)) dX4_owedBy_27 hX.po.s8 (by decide) (by omega) (hX.po.ef hG (by omega)) ?_
        refine J_getI dX4_owedBy_28 fX4_65 (hX.po.sf (by omega)) (fun _ => rfl) ?_
        refine J_cvI ((hX.fm hi (by decide))) ?_
        refine J_iaddN dX4_owedBy_31 ?_
        refine J_istore_n (L' := [some (pR (some p)), some (pI (nI s)), some (pI (nI (owS (aP A) s i + aP A 6 i 1))), some (pI (nI i))]) dX4_owedBy_32 (by decide) rfl ?_
        refine J_iincN (n := 1) (L' := [some (pR (some p)), some (pI (nI s)), some (pI (nI (owS (aP A) s i + aP A 6 i 1))), some (pI (nI (i + 1)))]) dX4_owedBy_33 rfl (by decide) rfl ?_
        refine J_goto dX4_owedBy_36 ?_
        have K := ih
        rw [owS_1 c3] at K
        exact K
theorem c_X4_gainOf {h : PH} {p : Nat} {A : AS} {s : Nat} (hG : GR h.2.2) (hX : XI h p A) (hW : WF A) (hs : s < 64) : CtI mX4_gainOf h [pR (some p), pI (nI s)] (fun v h' => v = gnS (aP A) s (aP A 0 4 0) ∧ h' = h) := by
  have bN := hW.1
  have bk := hW.wk
  have bc := hW.cs
  have bw := hW.wn
  have bt := hW.tn
  have bf := hW.fn
  refine Ct.of (L := [some (pR (some p)), some (pI (nI s)), none, none]) rfl rfl (Nat.le_of_ble_eq_true rfl) rfl ?_
  refine J_iconstN (n := 0) dX4_gainOf_0 ?_
  refine J_istore_n (L' := [some (pR (some p)), some (pI (nI s)), some (pI (nI 0)), none]) dX4_gainOf_1 (by decide) rfl ?_
  refine J_iconstN (n := 0) dX4_gainOf_2 ?_
  refine J_istore_n (L' := [some (pR (some p)), some (pI (nI s)), some (pI (nI 0)), some (pI (nI 0))]) dX4_gainOf_3 (by decide) rfl ?_
  refine J_L (L' := [some (pR (some p)), some (pI (nI s)), some (pI (gnS (aP A) s 0)), some (pI (nI 0))]) rfl ?_
  refine J_for (L := fun i => [some (pR (some p)), some (pI (nI s)), some (pI (gnS (aP A) s i)), some (pI (nI i))]) (hf := fun i => h) (e := aP A 0 4 0) ?_ (fun i hi ih => ?_) 0 (by omega)
  · show J _ _ _ _ _ [some (pR (some p)), some (pI (nI s)), some (pI (gnS (aP A) s (aP A 0 4 0))), some (pI (nI (aP A 0 4 0)))] _ _ (h)
    refine J_iload_n dX4_gainOf_4 rfl ?_
    refine J_aload_n dX4_gainOf_5 rfl ?_
    refine J_getI dX4_gainOf_6 fX4_53 hX.po.s (fun _ => rfl) ?_
    refine J_cvI (hX.fn) ?_
    refine J_icmp_geN dX4_gainOf_9 (by omega) (by omega) (fun c1 => ?_) (fun c1 => ?_)
    · refine J_iload_n dX4_gainOf_65 rfl ?_
      exact J_retI dX4_gainOf_66 rfl ⟨rfl, rfl⟩
    · exact (show False by omega).elim
  · show J _ _ _ _ _ [some (pR (some p)), some (pI (nI s)), some (pI (gnS (aP A) s i)), some (pI (nI i))] _ _ (h)
    have hb2 := bt_lt s i
    have hf := hW.fm hi
    have hob := owS_b hW (s := s) i (by omega)
    refine J_iload_n dX4_gainOf_4 rfl ?_
    refine J_aload_n dX4_gainOf_5 rfl ?_
    refine J_getI dX4_gainOf_6 fX4_53 hX.po.s (fun _ => rfl) ?_
    refine J_cvI (hX.fn) ?_
    refine J_icmp_geN dX4_gainOf_9 (by omega) (by omega) (fun c2 => ?_) (fun c2 => ?_)
    · exact (show False by omega).elim
    · refine J_iload_n dX4_gainOf_12 rfl ?_
      refine J_iload_n dX4_gainOf_13 rfl ?_
      refine J_ishr dX4_gainOf_14 ?_
      refine J_iconstN (n := 1) dX4_gainOf_15 ?_
      refine J_iand dX4_gainOf_16 ?_
      refine J_cvI (y := nI (btN s i)) (bit_nI hs (by omega)) ?_
      refine J_iconstN (n := 1) dX4_gainOf_17 ?_
      refine J_icmp_neN dX4_gainOf_18 (by omega) (by omega) (fun c3 => ?_) (fun c3 => ?_)
      · refine J_iincN (n := 1) (L' := [some (pR (some p)), some (pI (nI s)), some (pI (gnS (aP A) s i)), some (pI (nI (i + 1)))]) dX4_gainOf_59 rfl (by decide) rfl ?_
        refine J_goto dX4_gainOf_62 ?_
        have K := ih
        rw [gnS_0 c3] at K
        exact K
      · refine J_iload_n dX4_gainOf_21 rfl ?_
        refine J_aload_n dX4_gainOf_22 rfl ?_
        refine J_getR (r := some (p + 8)) dX4_gainOf_23 fX4_28 hX.po.s (fun _ => rfl) (hX.po.e11 hG) ?_
        refine J_iload_n dX4_gainOf_26 rfl ?_
        refine J_aald5N (r := some (p + 37 + i)) dX4_gainOf_27 hX.po.s8 (by decide) (by omega) (hX.po.ef hG (by omega)) ?_
        refine J_getI dX4_gainOf_28 fX4_68 (hX.po.sf (by omega)) (fun _ => rfl) ?_
        refine J_cvI ((hX.fm hi (by decide))) ?_
        refine J_bipush (x := nI 10) dX4_gainOf_31 (by decide) ?_
        refine J_imulN dX4_gainOf_33 ?_
        refine J_bipush (x := nI 10) dX4_gainOf_34 (by decide) ?_
        refine J_aload_n dX4_gainOf_36 rfl ?_
        refine J_getR (r := some (p + 8)) dX4_gainOf_37 fX4_28 hX.po.s (fun _ => rfl) (hX.po.e11 hG) ?_
        refine J_iload_n dX4_gainOf_40 rfl ?_
        refine J_aald5N (r := some (p + 37 + i)) dX4_gainOf_41 hX.po.s8 (by decide) (by omega) (hX.po.ef hG (by omega)) ?_
        refine J_getI dX4_gainOf_42 fX4_71 (hX.po.sf (by omega)) (fun _ => rfl) ?_
        refine J_cvI ((hX.fm hi (by decide))) ?_
        refine J_isub dX4_gainOf_45 ?_
        refine J_aload_n dX4_gainOf_46 rfl ?_
        refine J_getR (r := some (p + 8)) dX4_gainOf_47 fX4_28 hX.po.s (fun _ => rfl) (hX.po.e11 hG) ?_
        refine J_iload_n dX4_gainOf_50 rfl ?_
        refine J_aald5N (r := some (p + 37 + i)) dX4_gainOf_51 hX.po.s8 (by decide) (by omega) (hX.po.ef hG (by omega)) ?_
        refine J_getI dX4_gainOf_52 fX4_65 (hX.po.sf (by omega)) (fun _ => rfl) ?_
        refine J_cvI ((hX.fm hi (by decide))) ?_
        refine J_imul dX4_gainOf_55 ?_
        refine J_isub dX4_gainOf_56 ?_
        refine J_iadd dX4_gainOf_57 ?_
        refine J_istore_n (L' := [some (pR (some p)), some (pI (nI s)), some (pI ((gnS (aP A) s i) + ((nI (aP A 6 i 2 * 10)) - (((nI 10) - (nI (aP A 6 i 0))) * (nI (aP A 6 i 1)))))), some (pI (nI i))]) dX4_gainOf_58 (by decide) rfl ?_
        refine J_iincN (n := 1) (L' := [some (pR (some p)), some (pI (nI s)), some (pI ((gnS (aP A) s i) + ((nI (aP A 6 i 2 * 10)) - (((nI 10) - (nI (aP A 6 i 0))) * (nI (aP A 6 i 1)))))), some (pI (nI (i + 1)))]) dX4_gainOf_59 rfl (by decide) rfl ?_
        refine J_goto dX4_gainOf_62 ?_
        have K := ih
        rw [gnS_1 c3] at K
        exact K
theorem c_X9_trust_in {h : PH} {p : Nat} {A : AS} {b : Nat} (hG : GR h.2.2) (hX : XI h p A) (hW : WF A) {m : Nat} (hm : 2 ^ aP A 0 4 0 = m) (hb : b < 10000) : CtI mX9_trust h [pR (some 0), pI (nI b)] (fun v h' => v = nI (trS (aP A) b (m - 1)).1 ∧ XP h h' p A) := by
  have bN := hW.1
  have bk := hW.wk
  have bc := hW.cs
  have bw := hW.wn
  have bt := hW.tn
  have bf := hW.fn
  have bm := pow6 hW.fn
  rw [hm] at bm
  refine Ct.of (L := [some (pR (some 0)), some (pI (nI b)), none, none, none]) rfl rfl (Nat.le_of_ble_eq_true rfl) rfl ?_
  refine J_iload_n dX9_trust_0 rfl ?_
  refine J_if_ltN dX9_trust_1 (by omega) ?_
  refine J_iload_n dX9_trust_4 rfl ?_
  refine J_sipush (x := nI 9999) dX9_trust_5 (by decide) ?_
  refine J_icmp_leN dX9_trust_8 (by omega) (by omega) (fun c1 => ?_) (fun c1 => ?_)
  · refine J_iconstN (n := 0) dX9_trust_14 ?_
    refine J_istore_n (L' := [some (pR (some 0)), some (pI (nI b)), some (pI (nI 0)), none, none]) dX9_trust_15 (by decide) rfl ?_
    refine J_iconstN (n := 0) dX9_trust_16 ?_
    refine J_istore_n (L' := [some (pR (some 0)), some (pI (nI b)), some (pI (nI 0)), some (pI (nI 0)), none]) dX9_trust_17 (by decide) rfl ?_
    refine J_iconstN (n := 1) dX9_trust_18 ?_
    refine J_istore (L' := [some (pR (some 0)), some (pI (nI b)), some (pI (nI 0)), some (pI (nI 0)), some (pI (nI 1))]) dX9_trust_19 (by decide) rfl ?_
    refine J_L (L' := [some (pR (some 0)), some (pI (nI b)), some (pI (nI ((trS (aP A) b 0).1))), some (pI ((trS (aP A) b 0).2)), some (pI (nI (0 + 1)))]) rfl ?_
    refine J_for (L := fun i => [some (pR (some 0)), some (pI (nI b)), some (pI (nI ((trS (aP A) b i).1))), some (pI ((trS (aP A) b i).2)), some (pI (nI (i + 1)))]) (hf := fun i => h) (e := m - 1) ?_ (fun i hi ih => ?_) 0 (by omega)
    · show J _ _ _ _ _ [some (pR (some 0)), some (pI (nI b)), some (pI (nI ((trS (aP A) b (m - 1)).1))), some (pI ((trS (aP A) b (m - 1)).2)), some (pI (nI (m - 1 + 1)))] _ _ (h)
      have htb := trS_b (P := aP A) (b := b) (m - 1)
      refine J_iload dX9_trust_21 rfl ?_
      refine J_iconstN (n := 1) dX9_trust_23 ?_
      refine J_aload_n dX9_trust_24 rfl ?_
      refine J_getR (r := some p) dX9_trust_25 fX9_20 s0 (fun _ => rfl) (hX.cu) ?_
      refine J_getI dX9_trust_28 fX9_116 hX.po.s (fun _ => rfl) ?_
      refine J_cvI (hX.fn) ?_
      refine J_ishl dX9_trust_31 ?_
      refine J_cvI (y := nI m) ((shl_nI (by omega)).trans (by rw [hm])) ?_
      refine J_icmp_geN dX9_trust_32 (by omega) (by omega) (fun c2 => ?_) (fun c2 => ?_)
      · refine J_iload_n dX9_trust_80 rfl ?_
        exact J_retI dX9_trust_81 rfl ⟨rfl, hX, Fr.rf⟩
      · exact (show False by omega).elim
    · show J _ _ _ _ _ [some (pR (some 0)), some (pI (nI b)), some (pI (nI ((trS (aP A) b i).1))), some (pI ((trS (aP A) b i).2)), some (pI (nI (i + 1)))] _ _ (h)
      have hob := owS_b hW (s := i + 1) (aP A 0 4 0) (Nat.le_refl _)
      have htb := trS_b (P := aP A) (b := b) i
      refine J_iload dX9_trust_21 rfl ?_
      refine J_iconstN (n := 1) dX9_trust_23 ?_
      refine J_aload_n dX9_trust_24 rfl ?_
      refine J_getR (r := some p) dX9_trust_25 fX9_20 s0 (fun _ => rfl) (hX.cu) ?_
      refine J_getI dX9_trust_28 fX9_116 hX.po.s (fun _ => rfl) ?_
      refine J_cvI (hX.fn) ?_
      refine J_ishl dX9_trust_31 ?_
      refine J_cvI (y := nI m) ((shl_nI (by omega)).trans (by rw [hm])) ?_
      refine J_icmp_geN dX9_trust_32 (by omega) (by omega) (fun c3 => ?_) (fun c3 => ?_)
      · exact (show False by omega).elim
      · refine J_aload_n dX9_trust_35 rfl ?_
        refine J_getR (r := some p) dX9_trust_36 fX9_20 s0 (fun _ => rfl) (hX.cu) ?_
        refine J_iload dX9_trust_39 rfl ?_
        refine J_cVI (ci := 4) (c := p) (as := [pI (nI (i + 1))]) (st := []) dX9_trust_41 lX9_296 okX4_owedBy vX4_owedBy hX.po.s (by decide) rfl rfl rfl (Nat.le_of_ble_eq_true rfl) ⟨Nat.le_of_ble_eq_true rfl, Nat.le_of_ble_eq_true rfl⟩ CR.f (c_X4_owedBy hG hX hW (by omega)) (fun vq4 gq4 eq4 => ?_)
        obtain ⟨rfl, fq4⟩ := eq4
        rw [fq4]
        refine J_iload_n dX9_trust_44 rfl ?_
        refine J_icmp_gtN dX9_trust_45 (by omega) (by omega) (fun d1 => ?_) (fun d1 => ?_)
        · refine J_iincN (n := 1) (L' := [some (pR (some 0)), some (pI (nI b)), some (pI (nI ((trS (aP A) b i).1))), some (pI ((trS (aP A) b i).2)), some (pI (nI (i + 1 + 1)))]) dX9_trust_74 rfl (by decide) rfl ?_
          refine J_goto dX9_trust_77 ?_
          have K := ih
          rw [trS_0 (fun z => absurd z.1 (by omega))] at K
          exact K
        · refine J_aload_n dX9_trust_48 rfl ?_
          refine J_getR (r := some p) dX9_trust_49 fX9_20 s0 (fun _ => rfl) (hX.cu) ?_
          refine J_iload dX9_trust_52 rfl ?_
          refine J_cVI (ci := 4) (c := p) (as := [pI (nI (i + 1))]) (st := []) dX9_trust_54 lX9_299 okX4_gainOf vX4_gainOf hX.po.s (by decide) rfl rfl rfl (Nat.le_of_ble_eq_true rfl) ⟨Nat.le_of_ble_eq_true rfl, Nat.le_of_ble_eq_true rfl⟩ CR.f (c_X4_gainOf hG hX hW (by omega)) (fun vq6 gq6 eq6 => ?_)
          obtain ⟨rfl, fq6⟩ := eq6
          rw [fq6]
          refine J_iload_n dX9_trust_57 rfl ?_
          refine J_icmp_le dX9_trust_58 (fun d2 => ?_) (fun d2 => ?_)
          · refine J_iincN (n := 1) (L' := [some (pR (some 0)), some (pI (nI b)), some (pI (nI ((trS (aP A) b i).1))), some (pI ((trS (aP A) b i).2)), some (pI (nI (i + 1 + 1)))]) dX9_trust_74 rfl (by decide) rfl ?_
            refine J_goto dX9_trust_77 ?_
            have K := ih
            rw [trS_0 (fun z => absurd z.2 (Int32.not_lt.mpr d2))] at K
            exact K
          · refine J_iload dX9_trust_61 rfl ?_
            refine J_istore_n (L' := [some (pR (some 0)), some (pI (nI b)), some (pI (nI (i + 1))), some (pI ((trS (aP A) b i).2)), some (pI (nI (i + 1)))]) dX9_trust_63 (by decide) rfl ?_
            refine J_aload_n dX9_trust_64 rfl ?_
            refine J_getR (r := some p) dX9_trust_65 fX9_20 s0 (fun _ => rfl) (hX.cu) ?_
            refine J_iload dX9_trust_68 rfl ?_
            refine J_cVI (ci := 4) (c := p) (as := [pI (nI (i + 1))]) (st := []) dX9_trust_70 lX9_299 okX4_gainOf vX4_gainOf hX.po.s (by decide) rfl rfl rfl (Nat.le_of_ble_eq_true rfl) ⟨Nat.le_of_ble_eq_true rfl, Nat.le_of_ble_eq_true rfl⟩ CR.f (c_X4_gainOf hG hX hW (by omega)) (fun vq8 gq8 eq8 => ?_)
            obtain ⟨rfl, fq8⟩ := eq8
            rw [fq8]
            refine J_istore_n (L' := [some (pR (some 0)), some (pI (nI b)), some (pI (nI (i + 1))), some (pI (gnS (aP A) (i + 1) (aP A 0 4 0))), some (pI (nI (i + 1)))]) dX9_trust_73 (by decide) rfl ?_
            refine J_iincN (n := 1) (L' := [some (pR (some 0)), some (pI (nI b)), some (pI (nI (i + 1))), some (pI (gnS (aP A) (i + 1) (aP A 0 4 0))), some (pI (nI (i + 1 + 1)))]) dX9_trust_74 rfl (by decide) rfl ?_
            refine J_goto dX9_trust_77 ?_
            have K := ih
            rw [trS_1 (by omega) (Int32.not_le.mp d2)] at K
            exact K
  · exact (show False by omega).elim
theorem c_X9_trust_no {h : PH} {p : Nat} {A : AS} {b : Int32} (hG : GR h.2.2) (hX : XI h p A) (hW : WF A) (hno : ¬ inR b 10000) : CtI mX9_trust h [pR (some 0), pI b] (fun v h' => v = -2 ∧ XP h h' p A) := by
  have bN := hW.1
  have bk := hW.wk
  have bc := hW.cs
  have bw := hW.wn
  have bt := hW.tn
  have bf := hW.fn
  refine Ct.of (L := [some (pR (some 0)), some (pI b), none, none, none]) rfl rfl (Nat.le_of_ble_eq_true rfl) rfl ?_
  refine J_iload_n dX9_trust_0 rfl ?_
  refine J_if_lt dX9_trust_1 (fun c1 => ?_) (fun c1 => ?_)
  · refine J_bipush (x := (-2)) dX9_trust_11 (by decide) ?_
    exact J_retI dX9_trust_13 rfl ⟨rfl, hX, Fr.rf⟩
  · refine J_iload_n dX9_trust_4 rfl ?_
    refine J_sipush (x := nI 9999) dX9_trust_5 (by decide) ?_
    refine J_icmp_le dX9_trust_8 (fun c2 => ?_) (fun c2 => ?_)
    · exact absurd (inR_c (n := 9999) (by decide) c1 c2) hno
    · refine J_bipush (x := (-2)) dX9_trust_11 (by decide) ?_
      exact J_retI dX9_trust_13 rfl ⟨rfl, hX, Fr.rf⟩
theorem c_X9_trust {h : PH} {p : Nat} {A : AS} {b : Int32} (hG : GR h.2.2) (hX : XI h p A) (hW : WF A) : CtI mX9_trust h [pR (some 0), pI b] (fun v h' => v = trustA A b ∧ XP h h' p A) := by
  by_cases hok : inR b 10000
  · obtain ⟨b, hb, rfl⟩ := inR_of hok
    rw [trustA, if_pos hok, cl, nI_clamp (by omega)]
    exact c_X9_trust_in hG hX hW rfl hb
  · rw [trustA, if_neg hok]
    exact c_X9_trust_no hG hX hW hok
theorem c_X10_trust_in {h : PH} {A : AS} {b : Nat} (hG : GR h.2.2) (hM : MI h A) (hW : WF A) {m : Nat} (hm : 2 ^ aP A 0 4 0 = m) (hb : b < 10000) : CtI mX10_trust h [pR (some 158), pI (nI b)] (fun v h' => v = nI (trS (aP A) b (m - 1)).1 ∧ MP h h' A) := by
  have bN := hW.1
  have bk := hW.wk
  have bc := hW.cs
  have bw := hW.wn
  have bt := hW.tn
  have bf := hW.fn
  have bm := pow6 hW.fn
  rw [hm] at bm
  refine Ct.of (L := [some (pR (some 158)), some (pI (nI b)), none, none, none, none, none, none]) rfl rfl (Nat.le_of_ble_eq_true rfl) rfl ?_
  refine J_iload_n dX10_trust_0 rfl ?_
  refine J_iconstN (n := 0) dX10_trust_1 ?_
  refine J_sipush (x := nI 9999) dX10_trust_2 (by decide) ?_
  refine J_cSI (as := [pI (nI b), pI (nI 0), pI (nI 9999)]) (st := []) dX10_trust_5 lX10_172 okX10_in sX10_in rfl rfl (Nat.le_of_ble_eq_true rfl) ⟨Nat.le_of_ble_eq_true rfl, Nat.le_of_ble_eq_true rfl⟩ CR.f (c_X10_in) (fun vq1 gq1 eq1 => ?_)
  obtain ⟨rfl, fq1⟩ := eq1
  rw [fq1]
  refine J_cvI (bI_congr (inN (by omega) (by omega) (by omega))) ?_
  refine J_if_neB dX10_trust_8 (fun c2 => ?_) (fun c2 => ?_)
  · refine J_iconstN (n := 0) dX10_trust_14 ?_
    refine J_istore_n (L' := [some (pR (some 158)), some (pI (nI b)), some (pI (nI 0)), none, none, none, none, none]) dX10_trust_15 (by decide) rfl ?_
    refine J_iconstN (n := 0) dX10_trust_16 ?_
    refine J_istore_n (L' := [some (pR (some 158)), some (pI (nI b)), some (pI (nI 0)), some (pI (nI 0)), none, none, none, none]) dX10_trust_17 (by decide) rfl ?_
    refine J_iconstN (n := 1) dX10_trust_18 ?_
    refine J_istore (L' := [some (pR (some 158)), some (pI (nI b)), some (pI (nI 0)), some (pI (nI 0)), some (pI (nI 1)), none, none, none]) dX10_trust_19 (by decide) rfl ?_
    refine J_L (L' := [some (pR (some 158)), some (pI (nI b)), some (pI (nI ((trS (aP A) b 0).1))), some (pI ((trS (aP A) b 0).2)), some (pI (nI (0 + 1))), none, none, none]) rfl ?_
    refine J_for (L := fun i => [some (pR (some 158)), some (pI (nI b)), some (pI (nI ((trS (aP A) b i).1))), some (pI ((trS (aP A) b i).2)), some (pI (nI (i + 1))), none, none, none]) (hf := fun i => h) (e := m - 1) ?_ (fun i hi ih => ?_) 0 (by omega)
    · show J _ _ _ _ _ [some (pR (some 158)), some (pI (nI b)), some (pI (nI ((trS (aP A) b (m - 1)).1))), some (pI ((trS (aP A) b (m - 1)).2)), some (pI (nI (m - 1 + 1))), none, none, none] _ _ (h)
      have htb := trS_b (P := aP A) (b := b) (m - 1)
      refine J_iload dX10_trust_21 rfl ?_
      refine J_iconstN (n := 1) dX10_trust_23 ?_
      refine J_aload_n dX10_trust_24 rfl ?_
      refine J_getR (r := some 160) dX10_trust_25 fX10_17 s158 (fun _ => rfl) (g158_12 hG) ?_
      refine J_iconstN (n := 4) dX10_trust_28 ?_
      refine J_ialdN dX10_trust_29 s160 (by decide) (by omega) ?_
      refine J_cvI ((hM.nm (k := 4) (by decide))) ?_
      refine J_ishl dX10_trust_30 ?_
      refine J_cvI (y := nI m) ((shl_nI (by omega)).trans (by rw [hm])) ?_
      refine J_icmp_geN dX10_trust_31 (by omega) (by omega) (fun c3 => ?_) (fun c3 => ?_)
      · refine J_iload_n dX10_trust_160 rfl ?_
        exact J_retI dX10_trust_161 rfl ⟨rfl, hM, Fr.rf⟩
      · exact (show False by omega).elim
    · show J _ _ _ _ _ [some (pR (some 158)), some (pI (nI b)), some (pI (nI ((trS (aP A) b i).1))), some (pI ((trS (aP A) b i).2)), some (pI (nI (i + 1))), none, none, none] _ _ (h)
      have hob := owS_b hW (s := i + 1) (aP A 0 4 0) (Nat.le_refl _)
      have htb := trS_b (P := aP A) (b := b) i
      refine J_iload dX10_trust_21 rfl ?_
      refine J_iconstN (n := 1) dX10_trust_23 ?_
      refine J_aload_n dX10_trust_24 rfl ?_
      refine J_getR (r := some 160) dX10_trust_25 fX10_17 s158 (fun _ => rfl) (g158_12 hG) ?_
      refine J_iconstN (n := 4) dX10_trust_28 ?_
      refine J_ialdN dX10_trust_29 s160 (by decide) (by omega) ?_
      refine J_cvI ((hM.nm (k := 4) (by decide))) ?_
      refine J_ishl dX10_trust_30 ?_
      refine J_cvI (y := nI m) ((shl_nI (by omega)).trans (by rw [hm])) ?_
      refine J_icmp_geN dX10_trust_31 (by omega) (by omega) (fun c4 => ?_) (fun c4 => ?_)
      · exact (show False by omega).elim
      · refine J_iconstN (n := 0) dX10_trust_34 ?_
        refine J_istore (L' := [some (pR (some 158)), some (pI (nI b)), some (pI (nI ((trS (aP A) b i).1))), some (pI ((trS (aP A) b i).2)), some (pI (nI (i + 1))), some (pI (nI 0)), none, none]) dX10_trust_35 (by decide) rfl ?_
        refine J_iconstN (n := 0) dX10_trust_37 ?_
        refine J_istore (L' := [some (pR (some 158)), some (pI (nI b)), some (pI (nI ((trS (aP A) b i).1))), some (pI ((trS (aP A) b i).2)), some (pI (nI (i + 1))), some (pI (nI 0)), some (pI (nI 0)), none]) dX10_trust_38 (by decide) rfl ?_
        refine J_iconstN (n := 0) dX10_trust_40 ?_
        refine J_istore (L' := [some (pR (some 158)), some (pI (nI b)), some (pI (nI ((trS (aP A) b i).1))), some (pI ((trS (aP A) b i).2)), some (pI (nI (i + 1))), some (pI (nI 0)), some (pI (nI 0)), some (pI (nI 0))]) dX10_trust_41 (by decide) rfl ?_
        refine J_L (L' := [some (pR (some 158)), some (pI (nI b)), some (pI (nI ((trS (aP A) b i).1))), some (pI ((trS (aP A) b i).2)), some (pI (nI (i + 1))), some (pI (nI (owS (aP A) (i + 1) 0))), some (pI (gnS (aP A) (i + 1) 0)), some (pI (nI 0))]) rfl ?_
        refine J_for (L := fun i22 => [some (pR (some 158)), some (pI (nI b)), some (pI (nI ((trS (aP A) b i).1))), some (pI ((trS (aP A) b i).2)), some (pI (nI (i + 1))), some (pI (nI (owS (aP A) (i + 1) i22))), some (pI (gnS (aP A) (i + 1) i22)), some (pI (nI i22))]) (hf := fun i22 => h) (e := aP A 0 4 0) ?_ (fun i22 hi22 ih22 => ?_) 0 (by omega)
        · show J _ _ _ _ _ [some (pR (some 158)), some (pI (nI b)), some (pI (nI ((trS (aP A) b i).1))), some (pI ((trS (aP A) b i).2)), some (pI (nI (i + 1))), some (pI (nI (owS (aP A) (i + 1) (aP A 0 4 0)))), some (pI (gnS (aP A) (i + 1) (aP A 0 4 0))), some (pI (nI (aP A 0 4 0)))] _ _ (h)
          refine J_iload dX10_trust_43 rfl ?_
          refine J_aload_n dX10_trust_45 rfl ?_
          refine J_getR (r := some 160) dX10_trust_46 fX10_17 s158 (fun _ => rfl) (g158_12 hG) ?_
          refine J_iconstN (n := 4) dX10_trust_49 ?_
          refine J_ialdN dX10_trust_50 s160 (by decide) (by omega) ?_
          refine J_cvI ((hM.nm (k := 4) (by decide))) ?_
          refine J_icmp_geN dX10_trust_51 (by omega) (by omega) (fun c5 => ?_) (fun c5 => ?_)
          · refine J_iload dX10_trust_133 rfl ?_
            refine J_iload_n dX10_trust_135 rfl ?_
            refine J_icmp_gtN dX10_trust_136 (by omega) (by omega) (fun d1 => ?_) (fun d1 => ?_)
            · refine J_iincN (n := 1) (L' := [some (pR (some 158)), some (pI (nI b)), some (pI (nI ((trS (aP A) b i).1))), some (pI ((trS (aP A) b i).2)), some (pI (nI (i + 1 + 1))), some (pI (nI (owS (aP A) (i + 1) (aP A 0 4 0)))), some (pI (gnS (aP A) (i + 1) (aP A 0 4 0))), some (pI (nI (aP A 0 4 0)))]) dX10_trust_154 rfl (by decide) rfl ?_
              refine J_goto dX10_trust_157 ?_
              refine J_drop (L' := [some (pR (some 158)), some (pI (nI b)), some (pI (nI ((trS (aP A) b i).1))), some (pI ((trS (aP A) b i).2)), some (pI (nI (i + 1 + 1))), none, some (pI (gnS (aP A) (i + 1) (aP A 0 4 0))), some (pI (nI (aP A 0 4 0)))]) 5 rfl ?_
              refine J_drop (L' := [some (pR (some 158)), some (pI (nI b)), some (pI (nI ((trS (aP A) b i).1))), some (pI ((trS (aP A) b i).2)), some (pI (nI (i + 1 + 1))), none, none, some (pI (nI (aP A 0 4 0)))]) 6 rfl ?_
              refine J_drop (L' := [some (pR (some 158)), some (pI (nI b)), some (pI (nI ((trS (aP A) b i).1))), some (pI ((trS (aP A) b i).2)), some (pI (nI (i + 1 + 1))), none, none, none]) 7 rfl ?_
              have K := ih
              rw [trS_0 (fun z => absurd z.1 (by omega))] at K
              exact K
            · refine J_iload dX10_trust_139 rfl ?_
              refine J_iload_n dX10_trust_141 rfl ?_
              refine J_icmp_gt dX10_trust_142 (fun d2 => ?_) (fun d2 => ?_)
              · refine J_iload dX10_trust_148 rfl ?_
                refine J_istore_n (L' := [some (pR (some 158)), some (pI (nI b)), some (pI (nI (i + 1))), some (pI ((trS (aP A) b i).2)), some (pI (nI (i + 1))), some (pI (nI (owS (aP A) (i + 1) (aP A 0 4 0)))), some (pI (gnS (aP A) (i + 1) (aP A 0 4 0))), some (pI (nI (aP A 0 4 0)))]) dX10_trust_150 (by decide) rfl ?_
                refine J_iload dX10_trust_151 rfl ?_
                refine J_istore_n (L' := [some (pR (some 158)), some (pI (nI b)), some (pI (nI (i + 1))), some (pI (gnS (aP A) (i + 1) (aP A 0 4 0))), some (pI (nI (i + 1))), some (pI (nI (owS (aP A) (i + 1) (aP A 0 4 0)))), some (pI (gnS (aP A) (i + 1) (aP A 0 4 0))), some (pI (nI (aP A 0 4 0)))]) dX10_trust_153 (by decide) rfl ?_
                refine J_iincN (n := 1) (L' := [some (pR (some 158)), some (pI (nI b)), some (pI (nI (i + 1))), some (pI (gnS (aP A) (i + 1) (aP A 0 4 0))), some (pI (nI (i + 1 + 1))), some (pI (nI (owS (aP A) (i + 1) (aP A 0 4 0)))), some (pI (gnS (aP A) (i + 1) (aP A 0 4 0))), some (pI (nI (aP A 0 4 0)))]) dX10_trust_154 rfl (by decide) rfl ?_
                refine J_goto dX10_trust_157 ?_
                refine J_drop (L' := [some (pR (some 158)), some (pI (nI b)), some (pI (nI (i + 1))), some (pI (gnS (aP A) (i + 1) (aP A 0 4 0))), some (pI (nI (i + 1 + 1))), none, some (pI (gnS (aP A) (i + 1) (aP A 0 4 0))), some (pI (nI (aP A 0 4 0)))]) 5 rfl ?_
                refine J_drop (L' := [some (pR (some 158)), some (pI (nI b)), some (pI (nI (i + 1))), some (pI (gnS (aP A) (i + 1) (aP A 0 4 0))), some (pI (nI (i + 1 + 1))), none, none, some (pI (nI (aP A 0 4 0)))]) 6 rfl ?_
                refine J_drop (L' := [some (pR (some 158)), some (pI (nI b)), some (pI (nI (i + 1))), some (pI (gnS (aP A) (i + 1) (aP A 0 4 0))), some (pI (nI (i + 1 + 1))), none, none, none]) 7 rfl ?_
                have K := ih
                rw [trS_1 (by omega) d2] at K
                exact K
              · refine J_goto dX10_trust_145 ?_
                refine J_iincN (n := 1) (L' := [some (pR (some 158)), some (pI (nI b)), some (pI (nI ((trS (aP A) b i).1))), some (pI ((trS (aP A) b i).2)), some (pI (nI (i + 1 + 1))), some (pI (nI (owS (aP A) (i + 1) (aP A 0 4 0)))), some (pI (gnS (aP A) (i + 1) (aP A 0 4 0))), some (pI (nI (aP A 0 4 0)))]) dX10_trust_154 rfl (by decide) rfl ?_
                refine J_goto dX10_trust_157 ?_
                refine J_drop (L' := [some (pR (some 158)), some (pI (nI b)), some (pI (nI ((trS (aP A) b i).1))), some (pI ((trS (aP A) b i).2)), some (pI (nI (i + 1 + 1))), none, some (pI (gnS (aP A) (i + 1) (aP A 0 4 0))), some (pI (nI (aP A 0 4 0)))]) 5 rfl ?_
                refine J_drop (L' := [some (pR (some 158)), some (pI (nI b)), some (pI (nI ((trS (aP A) b i).1))), some (pI ((trS (aP A) b i).2)), some (pI (nI (i + 1 + 1))), none, none, some (pI (nI (aP A 0 4 0)))]) 6 rfl ?_
                refine J_drop (L' := [some (pR (some 158)), some (pI (nI b)), some (pI (nI ((trS (aP A) b i).1))), some (pI ((trS (aP A) b i).2)), some (pI (nI (i + 1 + 1))), none, none, none]) 7 rfl ?_
                have K := ih
                rw [trS_0 (fun z => d2 z.2)] at K
                exact K
          · exact (show False by omega).elim
        · show J _ _ _ _ _ [some (pR (some 158)), some (pI (nI b)), some (pI (nI ((trS (aP A) b i).1))), some (pI ((trS (aP A) b i).2)), some (pI (nI (i + 1))), some (pI (nI (owS (aP A) (i + 1) i22))), some (pI (gnS (aP A) (i + 1) i22)), some (pI (nI i22))] _ _ (h)
          have hb2 := bt_lt (i + 1) i22
          have hf := hW.fm hi22
          have hoc := owS_b hW (s := i + 1) i22 (by omega)
          refine J_iload dX10_trust_43 rfl ?_
          refine J_aload_n dX10_trust_45 rfl ?_
          refine J_getR (r := some 160) dX10_trust_46 fX10_17 s158 (fun _ => rfl) (g158_12 hG) ?_
          refine J_iconstN (n := 4) dX10_trust_49 ?_
          refine J_ialdN dX10_trust_50 s160 (by decide) (by omega) ?_
          refine J_cvI ((hM.nm (k := 4) (by decide))) ?_
          refine J_icmp_geN dX10_trust_51 (by omega) (by omega) (fun c8 => ?_) (fun c8 => ?_)
          · exact (show False by omega).elim
          · refine J_iload dX10_trust_54 rfl ?_
            refine J_iload dX10_trust_56 rfl ?_
            refine J_ishr dX10_trust_58 ?_
            refine J_iconstN (n := 1) dX10_trust_59 ?_
            refine J_iand dX10_trust_60 ?_
            refine J_cvI (y := nI (btN (i + 1) i22)) (bit_nI (by omega) (by omega)) ?_
            refine J_if_neN dX10_trust_61 (by omega) (fun c9 => ?_) (fun c9 => ?_)
            · refine J_iload dX10_trust_67 rfl ?_
              refine J_aload_n dX10_trust_69 rfl ?_
              refine J_getR (r := some 170) dX10_trust_70 fX10_50 s158 (fun _ => rfl) (g158_22 hG) ?_
              refine J_iconstN (n := 3) dX10_trust_73 ?_
              refine J_iload dX10_trust_74 rfl ?_
              refine J_imulN dX10_trust_76 ?_
              refine J_iconstN (n := 1) dX10_trust_77 ?_
              refine J_iaddN dX10_trust_78 ?_
              refine J_ialdN dX10_trust_79 s170 (by decide) (by omega) ?_
              refine J_cvI ((hM.fm hi22 (by decide))) ?_
              refine J_iaddN dX10_trust_80 ?_
              refine J_istore (L' := [some (pR (some 158)), some (pI (nI b)), some (pI (nI ((trS (aP A) b i).1))), some (pI ((trS (aP A) b i).2)), some (pI (nI (i + 1))), some (pI (nI (owS (aP A) (i + 1) i22 + aP A 6 i22 1))), some (pI (gnS (aP A) (i + 1) i22)), some (pI (nI i22))]) dX10_trust_81 (by decide) rfl ?_
              refine J_iload dX10_trust_83 rfl ?_
              refine J_bipush (x := nI 10) dX10_trust_85 (by decide) ?_
              refine J_aload_n dX10_trust_87 rfl ?_
              refine J_getR (r := some 170) dX10_trust_88 fX10_50 s158 (fun _ => rfl) (g158_22 hG) ?_
              refine J_iconstN (n := 3) dX10_trust_91 ?_
              refine J_iload dX10_trust_92 rfl ?_
              refine J_imulN dX10_trust_94 ?_
              refine J_iconstN (n := 2) dX10_trust_95 ?_
              refine J_iaddN dX10_trust_96 ?_
              refine J_ialdN dX10_trust_97 s170 (by decide) (by omega) ?_
              refine J_cvI ((hM.fm hi22 (by decide))) ?_
              refine J_imulN dX10_trust_98 ?_
              refine J_bipush (x := nI 10) dX10_trust_99 (by decide) ?_
              refine J_aload_n dX10_trust_101 rfl ?_
              refine J_getR (r := some 170) dX10_trust_102 fX10_50 s158 (fun _ => rfl) (g158_22 hG) ?_
              refine J_iconstN (n := 3) dX10_trust_105 ?_
              refine J_iload dX10_trust_106 rfl ?_
              refine J_imulN dX10_trust_108 ?_
              refine J_ialdN dX10_trust_109 s170 (by decide) (by omega) ?_
              refine J_cvI ((show _ = nI (aP A 6 i22 0) from hM.fm (k := 0) hi22 (by decide))) ?_
              refine J_isub dX10_trust_110 ?_
              refine J_aload_n dX10_trust_111 rfl ?_
              refine J_getR (r := some 170) dX10_trust_112 fX10_50 s158 (fun _ => rfl) (g158_22 hG) ?_
              refine J_iconstN (n := 3) dX10_trust_115 ?_
              refine J_iload dX10_trust_116 rfl ?_
              refine J_imulN dX10_trust_118 ?_
              refine J_iconstN (n := 1) dX10_trust_119 ?_
              refine J_iaddN dX10_trust_120 ?_
              refine J_ialdN dX10_trust_121 s170 (by decide) (by omega) ?_
              refine J_cvI ((hM.fm hi22 (by decide))) ?_
              refine J_imul dX10_trust_122 ?_
              refine J_isub dX10_trust_123 ?_
              refine J_iadd dX10_trust_124 ?_
              refine J_cvI (y := gnS (aP A) (i + 1) i22 + (nI (aP A 6 i22 2 * 10) - (nI 10 - nI (aP A 6 i22 0)) * nI (aP A 6 i22 1))) (by rw [Nat.mul_comm 10]) ?_
              refine J_istore (L' := [some (pR (some 158)), some (pI (nI b)), some (pI (nI ((trS (aP A) b i).1))), some (pI ((trS (aP A) b i).2)), some (pI (nI (i + 1))), some (pI (nI (owS (aP A) (i + 1) i22 + aP A 6 i22 1))), some (pI (gnS (aP A) (i + 1) i22 + (nI (aP A 6 i22 2 * 10) - (nI 10 - nI (aP A 6 i22 0)) * nI (aP A 6 i22 1)))), some (pI (nI i22))]) dX10_trust_125 (by decide) rfl ?_
              refine J_iincN (n := 1) (L' := [some (pR (some 158)), some (pI (nI b)), some (pI (nI ((trS (aP A) b i).1))), some (pI ((trS (aP A) b i).2)), some (pI (nI (i + 1))), some (pI (nI (owS (aP A) (i + 1) i22 + aP A 6 i22 1))), some (pI (gnS (aP A) (i + 1) i22 + (nI (aP A 6 i22 2 * 10) - (nI 10 - nI (aP A 6 i22 0)) * nI (aP A 6 i22 1)))), some (pI (nI (i22 + 1)))]) dX10_trust_127 rfl (by decide) rfl ?_
              refine J_goto dX10_trust_130 ?_
              have hbt : btN (i + 1) i22 = 1 := by omega
              have K := ih22
              rw [owS_1 hbt, gnS_1 hbt] at K
              exact K
            · refine J_goto dX10_trust_64 ?_
              refine J_iincN (n := 1) (L' := [some (pR (some 158)), some (pI (nI b)), some (pI (nI ((trS (aP A) b i).1))), some (pI ((trS (aP A) b i).2)), some (pI (nI (i + 1))), some (pI (nI (owS (aP A) (i + 1) i22))), some (pI (gnS (aP A) (i + 1) i22)), some (pI (nI (i22 + 1)))]) dX10_trust_127 rfl (by decide) rfl ?_
              refine J_goto dX10_trust_130 ?_
              have hbt : ¬ btN (i + 1) i22 = 1 := by omega
              have K := ih22
              rw [owS_0 hbt, gnS_0 hbt] at K
              exact K
  · exact (show False by omega).elim
theorem c_X10_trust_no {h : PH} {A : AS} {b : Int32} (hG : GR h.2.2) (hM : MI h A) (hW : WF A) (hno : ¬ inR b 10000) : CtI mX10_trust h [pR (some 158), pI b] (fun v h' => v = -2 ∧ MP h h' A) := by
  have bN := hW.1
  have bk := hW.wk
  have bc := hW.cs
  have bw := hW.wn
  have bt := hW.tn
  have bf := hW.fn
  refine Ct.of (L := [some (pR (some 158)), some (pI b), none, none, none, none, none, none]) rfl rfl (Nat.le_of_ble_eq_true rfl) rfl ?_
  refine J_iload_n dX10_trust_0 rfl ?_
  refine J_iconstN (n := 0) dX10_trust_1 ?_
  refine J_sipush (x := nI 9999) dX10_trust_2 (by decide) ?_
  refine J_cSI (as := [pI b, pI (nI 0), pI (nI 9999)]) (st := []) dX10_trust_5 lX10_172 okX10_in sX10_in rfl rfl (Nat.le_of_ble_eq_true rfl) ⟨Nat.le_of_ble_eq_true rfl, Nat.le_of_ble_eq_true rfl⟩ CR.f (c_X10_in) (fun vq1 gq1 eq1 => ?_)
  obtain ⟨rfl, fq1⟩ := eq1
  rw [fq1]
  refine J_cvI (bI_congr (in_iffN (b := 9999) (by decide))) ?_
  refine J_if_neB dX10_trust_8 (fun c2 => ?_) (fun c2 => ?_)
  · exact absurd c2 hno
  · refine J_bipush (x := (-2)) dX10_trust_11 (by decide) ?_
    exact J_retI dX10_trust_13 rfl ⟨rfl, hM, Fr.rf⟩
theorem c_X10_trust {h : PH} {A : AS} {b : Int32} (hG : GR h.2.2) (hM : MI h A) (hW : WF A) : CtI mX10_trust h [pR (some 158), pI b] (fun v h' => v = trustA A b ∧ MP h h' A) := by
  by_cases hok : inR b 10000
  · obtain ⟨b, hb, rfl⟩ := inR_of hok
    rw [trustA, if_pos hok, cl, nI_clamp (by omega)]
    exact c_X10_trust_in hG hM hW rfl hb
  · rw [trustA, if_neg hok]
    exact c_X10_trust_no hG hM hW hok
