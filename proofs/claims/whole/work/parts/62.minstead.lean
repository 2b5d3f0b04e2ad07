/-! ===== instead: the model's call ===== -/
theorem tg_eq {A : AS} {t b q r : Nat} (hW : WF A) (hn : 0 < aP A 0 2 0) : sL64 (fun w => lN (aP A 1 w 0) * (PB (qX A t w) (qX A b w) (brA A t) (aP A 0 0 0) (q * 21 + r) - lN (aP A 2 t 1 * q + aP A 2 b 1 * r) * tenL (2 * aP A 0 0 0))) (aP A 0 2 0) = tgA A t b q r := by
  rw [sum_sub, hW.xL hn]
  unfold tgA
  show _ = _ - _ * (tenL (2 * aP A 0 0 0) * 10)
  grind
theorem c_X10_instead_in {h : PH} {A : AS} {t q r k : Nat} {b : Nat} (hG : GR h.2.2) (hM : MI h A) (hW : WF A) (ht : t < aP A 0 3 0) (e4 : aP A 4 t 0 = b + 1) (hq : q ≤ 20) (hr : r ≤ 20) (hk : k < 2) (hn : 0 < aP A 0 2 0) : CtL mX10_instead h [pR (some 158), pI (nI t), pI (nI q), pI (nI r), pI (nI k)] (fun v h' => v = insV A t q r k ∧ MP h h' A) := by
  have bN := hW.1
  have bk := hW.wk
  have bc := hW.cs
  have bw := hW.wn
  have bt := hW.tn
  have bf := hW.fn
  have hb : b < aP A 0 3 0 := by have := hW.hp ht; omega
  have hz : aP A 4 t 0 ≠ 0 := by omega
  have hM0 := hM
  have hG0 := hG
  refine Ct.of (L := [some (pR (some 158)), some (pI (nI t)), some (pI (nI q)), some (pI (nI r)), some (pI (nI k)), none, none, none, none]) rfl rfl (Nat.le_of_ble_eq_true rfl) rfl ?_
  refine J_aload_n dX10_instead_0 rfl ?_
  refine J_iload_n dX10_instead_1 rfl ?_
  refine J_cVI (ci := 10) (c := 158) (as := [pI (nI t)]) (st := []) dX10_instead_2 lX10_243 okX10_isThing vX10_isThing s158 (by decide) rfl rfl rfl (Nat.le_of_ble_eq_true rfl) ⟨Nat.le_of_ble_eq_true rfl, Nat.le_of_ble_eq_true rfl⟩ CR.f (c_X10_isThing hG (hM.nm (by decide)) (by omega)) (fun vq1 gq1 eq1 => ?_)
  obtain ⟨rfl, fq1⟩ := eq1
  rw [fq1]
  refine J_cvI (bI_congr (inR_nI_iff (by omega))) ?_
  refine J_if_eqB dX10_instead_5 (fun c2 => ?_) (fun c2 => ?_)
  · exact (show False by omega).elim
  · refine J_aload_n dX10_instead_8 rfl ?_
    refine J_getR (r := some 168) dX10_instead_9 fX10_44 s158 (fun _ => rfl) (g158_20 hG) ?_
    refine J_iload_n dX10_instead_12 rfl ?_
    refine J_ialdN dX10_instead_13 s168 (by decide) (by omega) ?_
    refine J_cvI ((show _ = nI b from (hM.h6 ht).trans (by rw [e4]; rfl))) ?_
    refine J_iconst (x := -1) dX10_instead_14 (by decide) ?_
    refine J_icmp_eq dX10_instead_15 (fun c3 => ?_) (fun c3 => ?_)
    · exact absurd c3 (nI_m1 (by omega))
    · refine J_iload_n dX10_instead_18 rfl ?_
      refine J_iconstN (n := 0) dX10_instead_19 ?_
      refine J_bipush (x := nI 20) dX10_instead_20 (by decide) ?_
      refine J_cSI (as := [pI (nI q), pI (nI 0), pI (nI 20)]) (st := []) dX10_instead_22 lX10_172 okX10_in sX10_in rfl rfl (Nat.le_of_ble_eq_true rfl) ⟨Nat.le_of_ble_eq_true rfl, Nat.le_of_ble_eq_true rfl⟩ CR.f (c_X10_in) (fun vq4 gq4 eq4 => ?_)
      obtain ⟨rfl, fq4⟩ := eq4
      rw [fq4]
      refine J_cvI (bI_congr (inN (by omega) (by omega) (by omega))) ?_
      refine J_if_eqB dX10_instead_25 (fun c5 => ?_) (fun c5 => ?_)
      · exact (show False by omega).elim
      · refine J_iload_n dX10_instead_28 rfl ?_
        refine J_iconstN (n := 0) dX10_instead_29 ?_
        refine J_bipush (x := nI 20) dX10_instead_30 (by decide) ?_
        refine J_cSI (as := [pI (nI r), pI (nI 0), pI (nI 20)]) (st := []) dX10_instead_32 lX10_172 okX10_in sX10_in rfl rfl (Nat.le_of_ble_eq_true rfl) ⟨Nat.le_of_ble_eq_true rfl, Nat.le_of_ble_eq_true rfl⟩ CR.f (c_X10_in) (fun vq6 gq6 eq6 => ?_)
        obtain ⟨rfl, fq6⟩ := eq6
        rw [fq6]
        refine J_cvI (bI_congr (inN (by omega) (by omega) (by omega))) ?_
        refine J_if_eqB dX10_instead_35 (fun c7 => ?_) (fun c7 => ?_)
        · exact (show False by omega).elim
        · refine J_iload dX10_instead_38 rfl ?_
          refine J_iconstN (n := 0) dX10_instead_40 ?_
          refine J_iconstN (n := 1) dX10_instead_41 ?_
          refine J_cSI (as := [pI (nI k), pI (nI 0), pI (nI 1)]) (st := []) dX10_instead_42 lX10_172 okX10_in sX10_in rfl rfl (Nat.le_of_ble_eq_true rfl) ⟨Nat.le_of_ble_eq_true rfl, Nat.le_of_ble_eq_true rfl⟩ CR.f (c_X10_in) (fun vq8 gq8 eq8 => ?_)
          obtain ⟨rfl, fq8⟩ := eq8
          rw [fq8]
          refine J_cvI (bI_congr (inN (by omega) (by omega) (by omega))) ?_
          refine J_if_eqB dX10_instead_45 (fun c9 => ?_) (fun c9 => ?_)
          · exact (show False by omega).elim
          · refine J_aload_n dX10_instead_48 rfl ?_
            refine J_cVI (ci := 10) (c := 158) (as := []) (st := []) dX10_instead_49 lX10_234 okX10_hasWinters vX10_hasWinters s158 (by decide) rfl rfl rfl (Nat.le_of_ble_eq_true rfl) ⟨Nat.le_of_ble_eq_true rfl, Nat.le_of_ble_eq_true rfl⟩ CR.f (c_X10_hasWinters hG (hM.nm (by decide)) (by omega)) (fun vq10 gq10 eq10 => ?_)
            obtain ⟨rfl, fq10⟩ := eq10
            rw [fq10]
            refine J_if_neB dX10_instead_52 (fun c11 => ?_) (fun c11 => ?_)
            · refine J_aload_n dX10_instead_59 rfl ?_
              refine J_getR (r := some 168) dX10_instead_60 fX10_44 s158 (fun _ => rfl) (g158_20 hG) ?_
              refine J_iload_n dX10_instead_63 rfl ?_
              refine J_ialdN dX10_instead_64 s168 (by decide) (by omega) ?_
              refine J_cvI ((show _ = nI b from (hM.h6 ht).trans (by rw [e4]; rfl))) ?_
              refine J_istore (L' := [some (pR (some 158)), some (pI (nI t)), some (pI (nI q)), some (pI (nI r)), some (pI (nI k)), some (pI (nI b)), none, none, none]) dX10_instead_65 (by decide) rfl ?_
              refine J_lconst (x := 0) dX10_instead_67 rfl ?_
              refine J_lstore (L' := [some (pR (some 158)), some (pI (nI t)), some (pI (nI q)), some (pI (nI r)), some (pI (nI k)), some (pI (nI b)), some (pL 0), none, none]) dX10_instead_68 (by decide) rfl ?_
              refine J_iconstN (n := 0) dX10_instead_70 ?_
              refine J_istore (L' := [some (pR (some 158)), some (pI (nI t)), some (pI (nI q)), some (pI (nI r)), some (pI (nI k)), some (pI (nI b)), some (pL 0), none, some (pI (nI 0))]) dX10_instead_71 (by decide) rfl ?_
              refine J_L (L' := [some (pR (some 158)), some (pI (nI t)), some (pI (nI q)), some (pI (nI r)), some (pI (nI k)), some (pI (nI b)), some (pL (sL64 (fun w => lN (aP A 1 w 0) * (PB (qX A t w) (qX A b w) (brA A t) (aP A 0 0 0) (q * 21 + r) - lN (aP A 2 t 1 * q + aP A 2 b 1 * r) * tenL (2 * aP A 0 0 0))) 0)), none, some (pI (nI 0))]) rfl ?_
              refine J_forI (α := Unit) (L := fun i1 aa1 => [some (pR (some 158)), some (pI (nI t)), some (pI (nI q)), some (pI (nI r)), some (pI (nI k)), some (pI (nI b)), some (pL (sL64 (fun w => lN (aP A 1 w 0) * (PB (qX A t w) (qX A b w) (brA A t) (aP A 0 0 0) (q * 21 + r) - lN (aP A 2 t 1 * q + aP A 2 b 1 * r) * tenL (2 * aP A 0 0 0))) i1)), none, some (pI (nI i1))]) (fun i1 aa1 h1 => MFr h h1) (e := aP A 0 2 0) (fun aa1 h1 hI1 => ?_) (fun i1 aa1 h1 hi1 hI1 ih1 => ?_) 0 (()) _ (by omega) (MFr.rf)
              · show J _ _ _ _ _ [some (pR (some 158)), some (pI (nI t)), some (pI (nI q)), some (pI (nI r)), some (pI (nI k)), some (pI (nI b)), some (pL (sL64 (fun w => lN (aP A 1 w 0) * (PB (qX A t w) (qX A b w) (brA A t) (aP A 0 0 0) (q * 21 + r) - lN (aP A 2 t 1 * q + aP A 2 b 1 * r) * tenL (2 * aP A 0 0 0))) (aP A 0 2 0))), none, some (pI (nI (aP A 0 2 0)))] _ _ h1
                have hM := hM0.mq hI1
                have hG := hI1.g hG0
                have hQ := hI1
                refine J_iload dX10_instead_73 rfl ?_
                refine J_aload_n dX10_instead_75 rfl ?_
                refine J_getR (r := some 160) dX10_instead_76 fX10_17 s158 (fun _ => rfl) (g158_12 hG) ?_
                refine J_iconstN (n := 2) dX10_instead_79 ?_
                refine J_ialdN dX10_instead_80 s160 (by decide) (by omega) ?_
                refine J_cvI ((hM.nm (k := 2) (by decide))) ?_
                refine J_icmp_geN dX10_instead_81 (by omega) (by omega) (fun c12 => ?_) (fun c12 => ?_)
                · refine J_iload dX10_instead_114 rfl ?_
                  refine J_if_neN dX10_instead_116 (by omega) (fun c13 => ?_) (fun c13 => ?_)
                  · refine J_lload dX10_instead_124 rfl ?_
                    refine J_aload_n dX10_instead_126 rfl ?_
                    refine J_aload_n dX10_instead_127 rfl ?_
                    refine J_getR (r := some 160) dX10_instead_128 fX10_17 s158 (fun _ => rfl) (g158_12 hG) ?_
                    refine J_iconstN (n := 0) dX10_instead_131 ?_
                    refine J_ialdN dX10_instead_132 s160 (by decide) (by omega) ?_
                    refine J_cvI ((hM.nm (k := 0) (by decide))) ?_
                    refine J_cVL (ci := 10) (c := 158) (as := [pI (nI (aP A 0 0 0))]) (st := [pL (sL64 (fun w => lN (aP A 1 w 0) * (PB (qX A t w) (qX A b w) (brA A t) (aP A 0 0 0) (q * 21 + r) - lN (aP A 2 t 1 * q + aP A 2 b 1 * r) * tenL (2 * aP A 0 0 0))) (aP A 0 2 0))]) dX10_instead_133 lX10_290 okX10_tens vX10_tens s158 (by decide) rfl rfl rfl (Nat.le_of_ble_eq_true rfl) ⟨Nat.le_of_ble_eq_true rfl, Nat.le_of_ble_eq_true rfl⟩ CR.f (c_X10_tens (by omega)) (fun vq14 gq14 eq14 => ?_)
                    obtain ⟨rfl, fq14⟩ := eq14
                    rw [fq14]
                    refine J_aload_n dX10_instead_136 rfl ?_
                    refine J_iload_n dX10_instead_137 rfl ?_
                    refine J_iload_n dX10_instead_138 rfl ?_
                    refine J_cVL (ci := 10) (c := 158) (as := [pI (nI t), pI (nI q)]) (st := [pL (tenL (aP A 0 0 0)), pL (sL64 (fun w => lN (aP A 1 w 0) * (PB (qX A t w) (qX A b w) (brA A t) (aP A 0 0 0) (q * 21 + r) - lN (aP A 2 t 1 * q + aP A 2 b 1 * r) * tenL (2 * aP A 0 0 0))) (aP A 0 2 0))]) dX10_instead_139 lX10_321 okX10_scoreOf vX10_scoreOf s158 (by decide) rfl rfl rfl (Nat.le_of_ble_eq_true rfl) ⟨Nat.le_of_ble_eq_true rfl, Nat.le_of_ble_eq_true rfl⟩ CR.f (c_X10_scoreOf hG (by omega) (hM.tma hW ht) (hM.nm (by decide)) (by omega) hM.k35 (hM.nm (by decide)) (by omega) (x := fun w => aP A 1 w 0) (fun w hw => ⟨hM.x hw, hW.x hw⟩) (u := aV A t) (fun w hw => hM.wm hW ht (by omega)) (by omega)) (fun vg15 g15 eg15 => ?_)
                    obtain ⟨rfl, f2⟩ := eg15
                    have hG := f2.g hG
                    have hM := hM.mq (.of f2)
                    have hQ := hQ.tr (.of f2)
                    refine J_aload_n dX10_instead_142 rfl ?_
                    refine J_iload dX10_instead_143 rfl ?_
                    refine J_iload_n dX10_instead_145 rfl ?_
                    refine J_cVL (ci := 10) (c := 158) (as := [pI (nI b), pI (nI r)]) (st := [pL (sOf A t q), pL (tenL (aP A 0 0 0)), pL (sL64 (fun w => lN (aP A 1 w 0) * (PB (qX A t w) (qX A b w) (brA A t) (aP A 0 0 0) (q * 21 + r) - lN (aP A 2 t 1 * q + aP A 2 b 1 * r) * tenL (2 * aP A 0 0 0))) (aP A 0 2 0))]) dX10_instead_146 lX10_321 okX10_scoreOf vX10_scoreOf s158 (by decide) rfl rfl rfl (Nat.le_of_ble_eq_true rfl) ⟨Nat.le_of_ble_eq_true rfl, Nat.le_of_ble_eq_true rfl⟩ CR.f (c_X10_scoreOf hG (by omega) (hM.tma hW hb) (hM.nm (by decide)) (by omega) hM.k35 (hM.nm (by decide)) (by omega) (x := fun w => aP A 1 w 0) (fun w hw => ⟨hM.x hw, hW.x hw⟩) (u := aV A b) (fun w hw => hM.wm hW hb (by omega)) (by omega)) (fun vg16 g16 eg16 => ?_)
                    obtain ⟨rfl, f2⟩ := eg16
                    have hG := f2.g hG
                    have hM := hM.mq (.of f2)
                    have hQ := hQ.tr (.of f2)
                    refine J_ladd dX10_instead_149 ?_
                    refine J_lmul dX10_instead_150 ?_
                    refine J_lsub dX10_instead_151 ?_
                    exact J_retL dX10_instead_152 rfl ⟨by unfold insV; rw [e4, if_neg (by omega), tg_eq hW hn]; exact congrArg (fun z => tgA A t b q r - z) (Int64.mul_comm (tenL (aP A 0 0 0)) (sOf A t q + sOf A b r)), hM, hQ.fr⟩
                  · refine J_lload dX10_instead_119 rfl ?_
                    refine J_goto dX10_instead_121 ?_
                    exact J_retL dX10_instead_152 rfl ⟨by unfold insV; rw [e4, if_pos (by omega), tg_eq hW hn]; rfl, hM, hQ.fr⟩
                · exact (show False by omega).elim
              · show J _ _ _ _ _ [some (pR (some 158)), some (pI (nI t)), some (pI (nI q)), some (pI (nI r)), some (pI (nI k)), some (pI (nI b)), some (pL (sL64 (fun w => lN (aP A 1 w 0) * (PB (qX A t w) (qX A b w) (brA A t) (aP A 0 0 0) (q * 21 + r) - lN (aP A 2 t 1 * q + aP A 2 b 1 * r) * tenL (2 * aP A 0 0 0))) i1)), none, some (pI (nI i1))] _ _ h1
                have hM := hM0.mq hI1
                have hG := hI1.g hG0
                have hQ := hI1
                have bx := hW.x hi1
                refine J_iload dX10_instead_73 rfl ?_
                refine J_aload_n dX10_instead_75 rfl ?_
                refine J_getR (r := some 160) dX10_instead_76 fX10_17 s158 (fun _ => rfl) (g158_12 hG) ?_
                refine J_iconstN (n := 2) dX10_instead_79 ?_
                refine J_ialdN dX10_instead_80 s160 (by decide) (by omega) ?_
                refine J_cvI ((hM.nm (k := 2) (by decide))) ?_
                refine J_icmp_geN dX10_instead_81 (by omega) (by omega) (fun c17 => ?_) (fun c17 => ?_)
                · exact (show False by omega).elim
                · refine J_lload dX10_instead_84 rfl ?_
                  refine J_aload_n dX10_instead_86 rfl ?_
                  refine J_iload dX10_instead_87 rfl ?_
                  refine J_cVI (ci := 10) (c := 158) (as := [pI (nI i1)]) (st := [pL (sL64 (fun w => lN (aP A 1 w 0) * (PB (qX A t w) (qX A b w) (brA A t) (aP A 0 0 0) (q * 21 + r) - lN (aP A 2 t 1 * q + aP A 2 b 1 * r) * tenL (2 * aP A 0 0 0))) i1)]) dX10_instead_89 lX10_240 okX10_weight vX10_weight s158 (by decide) rfl rfl rfl (Nat.le_of_ble_eq_true rfl) ⟨Nat.le_of_ble_eq_true rfl, Nat.le_of_ble_eq_true rfl⟩ CR.f (c_X10_weight hG (by omega) (hM.x hi1)) (fun vq18 gq18 eq18 => ?_)
                  obtain ⟨rfl, fq18⟩ := eq18
                  rw [fq18]
                  refine J_i2lN dX10_instead_92 (by omega) ?_
                  refine J_aload_n dX10_instead_93 rfl ?_
                  refine J_iload_n dX10_instead_94 rfl ?_
                  refine J_iload dX10_instead_95 rfl ?_
                  refine J_iload_n dX10_instead_97 rfl ?_
                  refine J_iload_n dX10_instead_98 rfl ?_
                  refine J_iload dX10_instead_99 rfl ?_
                  refine J_cVL (ci := 10) (c := 158) (as := [pI (nI t), pI (nI b), pI (nI q), pI (nI r), pI (nI i1)]) (st := [pL (lN (aP A 1 i1 0)), pL (sL64 (fun w => lN (aP A 1 w 0) * (PB (qX A t w) (qX A b w) (brA A t) (aP A 0 0 0) (q * 21 + r) - lN (aP A 2 t 1 * q + aP A 2 b 1 * r) * tenL (2 * aP A 0 0 0))) i1)]) dX10_instead_101 lX10_350 okX10_pairIn vX10_pairIn s158 (by decide) rfl rfl rfl (Nat.le_of_ble_eq_true rfl) ⟨Nat.le_of_ble_eq_true rfl, Nat.le_of_ble_eq_true rfl⟩ CR.f (c_X10_pairIn hG hM hW ht hb hz hi1 hq hr) (fun v1 g1 e1 => ?_)
                  obtain ⟨rfl, f1⟩ := e1
                  refine J_lmul dX10_instead_104 ?_
                  refine J_ladd dX10_instead_105 ?_
                  refine J_lstore (L' := [some (pR (some 158)), some (pI (nI t)), some (pI (nI q)), some (pI (nI r)), some (pI (nI k)), some (pI (nI b)), some (pL ((sL64 (fun w => lN (aP A 1 w 0) * (PB (qX A t w) (qX A b w) (brA A t) (aP A 0 0 0) (q * 21 + r) - lN (aP A 2 t 1 * q + aP A 2 b 1 * r) * tenL (2 * aP A 0 0 0))) i1) + ((lN (aP A 1 i1 0)) * (PB (qX A t i1) (qX A b i1) (brA A t) (aP A 0 0 0) (q * 21 + r) - lN (aP A 2 t 1 * q + aP A 2 b 1 * r) * tenL (2 * aP A 0 0 0))))), none, some (pI (nI i1))]) dX10_instead_106 (by decide) rfl ?_
                  refine J_iincN (n := 1) (L' := [some (pR (some 158)), some (pI (nI t)), some (pI (nI q)), some (pI (nI r)), some (pI (nI k)), some (pI (nI b)), some (pL ((sL64 (fun w => lN (aP A 1 w 0) * (PB (qX A t w) (qX A b w) (brA A t) (aP A 0 0 0) (q * 21 + r) - lN (aP A 2 t 1 * q + aP A 2 b 1 * r) * tenL (2 * aP A 0 0 0))) i1) + ((lN (aP A 1 i1 0)) * (PB (qX A t i1) (qX A b i1) (brA A t) (aP A 0 0 0) (q * 21 + r) - lN (aP A 2 t 1 * q + aP A 2 b 1 * r) * tenL (2 * aP A 0 0 0))))), none, some (pI (nI (i1 + 1)))]) dX10_instead_108 rfl (by decide) rfl ?_
                  refine J_goto dX10_instead_111 ?_
                  refine J_L (L' := [some (pR (some 158)), some (pI (nI t)), some (pI (nI q)), some (pI (nI r)), some (pI (nI k)), some (pI (nI b)), some (pL (sL64 (fun w => lN (aP A 1 w 0) * (PB (qX A t w) (qX A b w) (brA A t) (aP A 0 0 0) (q * 21 + r) - lN (aP A 2 t 1 * q + aP A 2 b 1 * r) * tenL (2 * aP A 0 0 0))) (i1 + 1))), none, some (pI (nI (i1 + 1)))]) rfl ?_
                  exact ih1 () _ (hI1.tr f1)
            · exact (show False by omega).elim
theorem c_X10_instead_no {h : PH} {A : AS} {t q r k : Int32} (hG : GR h.2.2) (hM : MI h A) (hW : WF A) (hno : ¬ okI (aP A) t q r k) : CtL mX10_instead h [pR (some 158), pI t, pI q, pI r, pI k] (fun v h' => v = -9000000000000000000 ∧ MP h h' A) := by
  have bN := hW.1
  have bk := hW.wk
  have bc := hW.cs
  have bw := hW.wn
  have bt := hW.tn
  have bf := hW.fn
  refine Ct.of (L := [some (pR (some 158)), some (pI t), some (pI q), some (pI r), some (pI k), none, none, none, none]) rfl rfl (Nat.le_of_ble_eq_true rfl) rfl ?_
  refine J_aload_n dX10_instead_0 rfl ?_
  refine J_iload_n dX10_instead_1 rfl ?_
  refine J_cVI (ci := 10) (c := 158) (as := [pI t]) (st := []) dX10_instead_2 lX10_243 okX10_isThing vX10_isThing s158 (by decide) rfl rfl rfl (Nat.le_of_ble_eq_true rfl) ⟨Nat.le_of_ble_eq_true rfl, Nat.le_of_ble_eq_true rfl⟩ CR.f (c_X10_isThing hG (hM.nm (by decide)) (by omega)) (fun vq1 gq1 eq1 => ?_)
  obtain ⟨rfl, fq1⟩ := eq1
  rw [fq1]
  refine J_if_eqB dX10_instead_5 (fun d1 => ?_) (fun d1 => ?_)
  · refine J_ldc2 dX10_instead_55 kX10_309 ?_
    exact J_retL dX10_instead_58 rfl ⟨rfl, hM, Fr.rf⟩
  · have e1 := d1
    obtain ⟨j, hj, rfl⟩ := inR_of (d1)
    refine J_aload_n dX10_instead_8 rfl ?_
    refine J_getR (r := some 168) dX10_instead_9 fX10_44 s158 (fun _ => rfl) (g158_20 hG) ?_
    refine J_iload_n dX10_instead_12 rfl ?_
    refine J_ialdN dX10_instead_13 s168 (by decide) (by omega) ?_
    refine J_cvI ((hM.h6 hj)) ?_
    refine J_iconst (x := -1) dX10_instead_14 (by decide) ?_
    refine J_icmp_eq dX10_instead_15 (fun d2 => ?_) (fun d2 => ?_)
    · refine J_ldc2 dX10_instead_55 kX10_309 ?_
      exact J_retL dX10_instead_58 rfl ⟨rfl, hM, Fr.rf⟩
    · refine J_iload_n dX10_instead_18 rfl ?_
      refine J_iconstN (n := 0) dX10_instead_19 ?_
      refine J_bipush (x := nI 20) dX10_instead_20 (by decide) ?_
      refine J_cSI (as := [pI q, pI (nI 0), pI (nI 20)]) (st := []) dX10_instead_22 lX10_172 okX10_in sX10_in rfl rfl (Nat.le_of_ble_eq_true rfl) ⟨Nat.le_of_ble_eq_true rfl, Nat.le_of_ble_eq_true rfl⟩ CR.f (c_X10_in) (fun vq4 gq4 eq4 => ?_)
      obtain ⟨rfl, fq4⟩ := eq4
      rw [fq4]
      refine J_cvI (bI_congr (in_iffN (b := 20) (by decide))) ?_
      refine J_if_eqB dX10_instead_25 (fun d3 => ?_) (fun d3 => ?_)
      · refine J_ldc2 dX10_instead_55 kX10_309 ?_
        exact J_retL dX10_instead_58 rfl ⟨rfl, hM, Fr.rf⟩
      · refine J_iload_n dX10_instead_28 rfl ?_
        refine J_iconstN (n := 0) dX10_instead_29 ?_
        refine J_bipush (x := nI 20) dX10_instead_30 (by decide) ?_
        refine J_cSI (as := [pI r, pI (nI 0), pI (nI 20)]) (st := []) dX10_instead_32 lX10_172 okX10_in sX10_in rfl rfl (Nat.le_of_ble_eq_true rfl) ⟨Nat.le_of_ble_eq_true rfl, Nat.le_of_ble_eq_true rfl⟩ CR.f (c_X10_in) (fun vq6 gq6 eq6 => ?_)
        obtain ⟨rfl, fq6⟩ := eq6
        rw [fq6]
        refine J_cvI (bI_congr (in_iffN (b := 20) (by decide))) ?_
        refine J_if_eqB dX10_instead_35 (fun d4 => ?_) (fun d4 => ?_)
        · refine J_ldc2 dX10_instead_55 kX10_309 ?_
          exact J_retL dX10_instead_58 rfl ⟨rfl, hM, Fr.rf⟩
        · refine J_iload dX10_instead_38 rfl ?_
          refine J_iconstN (n := 0) dX10_instead_40 ?_
          refine J_iconstN (n := 1) dX10_instead_41 ?_
          refine J_cSI (as := [pI k, pI (nI 0), pI (nI 1)]) (st := []) dX10_instead_42 lX10_172 okX10_in sX10_in rfl rfl (Nat.le_of_ble_eq_true rfl) ⟨Nat.le_of_ble_eq_true rfl, Nat.le_of_ble_eq_true rfl⟩ CR.f (c_X10_in) (fun vq8 gq8 eq8 => ?_)
          obtain ⟨rfl, fq8⟩ := eq8
          rw [fq8]
          refine J_cvI (bI_congr (in_iffN (b := 1) (by decide))) ?_
          refine J_if_eqB dX10_instead_45 (fun d5 => ?_) (fun d5 => ?_)
          · refine J_ldc2 dX10_instead_55 kX10_309 ?_
            exact J_retL dX10_instead_58 rfl ⟨rfl, hM, Fr.rf⟩
          · refine J_aload_n dX10_instead_48 rfl ?_
            refine J_cVI (ci := 10) (c := 158) (as := []) (st := []) dX10_instead_49 lX10_234 okX10_hasWinters vX10_hasWinters s158 (by decide) rfl rfl rfl (Nat.le_of_ble_eq_true rfl) ⟨Nat.le_of_ble_eq_true rfl, Nat.le_of_ble_eq_true rfl⟩ CR.f (c_X10_hasWinters hG (hM.nm (by decide)) (by omega)) (fun vq10 gq10 eq10 => ?_)
            obtain ⟨rfl, fq10⟩ := eq10
            rw [fq10]
            refine J_if_neB dX10_instead_52 (fun d6 => ?_) (fun d6 => ?_)
            · exact absurd ⟨⟨e1, by rw [cl, nI_clamp (by omega)]; exact fun z => d2 (by rw [z]; rfl)⟩, d3, d4, d5, d6⟩ hno
            · refine J_ldc2 dX10_instead_55 kX10_309 ?_
              exact J_retL dX10_instead_58 rfl ⟨rfl, hM, Fr.rf⟩
theorem c_X10_instead {h : PH} {A : AS} {t q r k : Int32} (hG : GR h.2.2) (hM : MI h A) (hW : WF A) : CtL mX10_instead h [pR (some 158), pI t, pI q, pI r, pI k] (fun v h' => v = insteadA A t q r k ∧ MP h h' A) := by
  by_cases hok : okI (aP A) t q r k
  · obtain ⟨⟨h1, h2⟩, h3, h4, h5, h6⟩ := id hok
    obtain ⟨t, ht, rfl⟩ := inR_of h1
    obtain ⟨q, hq, rfl⟩ := inR_of h3
    obtain ⟨r, hr, rfl⟩ := inR_of h4
    obtain ⟨k, hk, rfl⟩ := inR_of h5
    have bt := hW.tn
    rw [cl, nI_clamp (by omega)] at h2
    rw [insteadA, if_pos hok, cl, cl, cl, cl, nI_clamp (by omega), nI_clamp (by omega), nI_clamp (by omega), nI_clamp (by omega)]
    exact c_X10_instead_in (b := aP A 4 t 0 - 1) hG hM hW ht (by omega) (by omega) (by omega) hk h6
  · rw [insteadA, if_neg hok]
    exact c_X10_instead_no hG hM hW hok
