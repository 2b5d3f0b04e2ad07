/-! ===== instead: the class's call ===== -/
theorem hlp_in {n T : Nat} (h : n ≤ T) (hT : T < 2 ^ 30) : inR (hlp n) T ↔ n ≠ 0 := by
  cases n with
  | zero => exact ⟨fun z => absurd z.1 (by decide), fun z => absurd rfl z⟩
  | succ k => exact ⟨fun _ => Nat.succ_ne_zero k, fun _ => inR_nI (by omega) (by omega)⟩
theorem c_X3_together {h : PH} {p : Nat} {A : AS} {t b q r : Nat} (hG : GR h.2.2) (hX : XI h p A) (hW : WF A) (ht : t < aP A 0 3 0) (hb : b < aP A 0 3 0) (hz : aP A 4 t 0 ≠ 0) (hq : q ≤ 20) (hr : r ≤ 20) : CtL mX3_together h [pR (some 98), pR (some p), pR (some (p + 9 + 7 * t)), pR (some (p + 9 + 7 * b)), pI (nI q), pI (nI r)] (fun v h' => v = tgA A t b q r ∧ Fr 98 102 h h') := by
  have bN := hW.1
  have bk := hW.wk
  have bc := hW.cs
  have bw := hW.wn
  have bt := hW.tn
  have bf := hW.fn
  have hX0 := hX
  have hG0 := hG
  obtain ⟨-, ba1, ba2, ba3, ba4, -⟩ := hW.t ht
  obtain ⟨-, bb1, bb2, bb3, bb4, -⟩ := hW.t hb
  have bp := hW.hq ht hz
  have m1 : aP A 2 t 1 * q ≤ 99 * 20 := Nat.mul_le_mul ba1 hq
  have m2 : aP A 2 b 1 * r ≤ 99 * 20 := Nat.mul_le_mul bb1 hr
  refine Ct.of (L := [some (pR (some 98)), some (pR (some p)), some (pR (some (p + 9 + 7 * t))), some (pR (some (p + 9 + 7 * b))), some (pI (nI q)), some (pI (nI r)), none, none, none, none]) rfl rfl (Nat.le_of_ble_eq_true rfl) rfl ?_
  refine J_lconst (x := 0) dX3_together_0 rfl ?_
  refine J_lstore (L' := [some (pR (some 98)), some (pR (some p)), some (pR (some (p + 9 + 7 * t))), some (pR (some (p + 9 + 7 * b))), some (pI (nI q)), some (pI (nI r)), some (pL 0), none, none, none]) dX3_together_1 (by decide) rfl ?_
  refine J_iconstN (n := 0) dX3_together_3 ?_
  refine J_istore (L' := [some (pR (some 98)), some (pR (some p)), some (pR (some (p + 9 + 7 * t))), some (pR (some (p + 9 + 7 * b))), some (pI (nI q)), some (pI (nI r)), some (pL 0), none, some (pI (nI 0)), none]) dX3_together_4 (by decide) rfl ?_
  refine J_L (L' := [some (pR (some 98)), some (pR (some p)), some (pR (some (p + 9 + 7 * t))), some (pR (some (p + 9 + 7 * b))), some (pI (nI q)), some (pI (nI r)), some (pL (sL64 (fun w => lN (aP A 1 w 0) * PB (qX A t w) (qX A b w) (brA A t) (aP A 0 0 0) (q * 21 + r)) 0)), none, some (pI (nI 0)), none]) rfl ?_
  refine J_forI (α := Unit) (L := fun i1 aa1 => [some (pR (some 98)), some (pR (some p)), some (pR (some (p + 9 + 7 * t))), some (pR (some (p + 9 + 7 * b))), some (pI (nI q)), some (pI (nI r)), some (pL (sL64 (fun w => lN (aP A 1 w 0) * PB (qX A t w) (qX A b w) (brA A t) (aP A 0 0 0) (q * 21 + r)) i1)), none, some (pI (nI i1)), none]) (fun i1 aa1 h1 => Fr 98 102 h h1) (e := aP A 0 2 0) (fun aa1 h1 hI1 => ?_) (fun i1 aa1 h1 hi1 hI1 ih1 => ?_) 0 (()) _ (by omega) (Fr.rf)
  · show J _ _ _ _ _ [some (pR (some 98)), some (pR (some p)), some (pR (some (p + 9 + 7 * t))), some (pR (some (p + 9 + 7 * b))), some (pI (nI q)), some (pI (nI r)), some (pL (sL64 (fun w => lN (aP A 1 w 0) * PB (qX A t w) (qX A b w) (brA A t) (aP A 0 0 0) (q * 21 + r)) (aP A 0 2 0))), none, some (pI (nI (aP A 0 2 0))), none] _ _ h1
    have hX := hX0.fr hW hI1 (by decide) (by decide)
    have hG := hI1.g hG0
    refine J_iload dX3_together_6 rfl ?_
    refine J_aload_n dX3_together_8 rfl ?_
    refine J_getI dX3_together_9 fX3_28 hX.po.s (fun _ => rfl) ?_
    refine J_cvI (hX.wn) ?_
    refine J_icmp_geN dX3_together_12 (by omega) (by omega) (fun c1 => ?_) (fun c1 => ?_)
    · refine J_aload_n dX3_together_87 rfl ?_
      refine J_getI dX3_together_88 fX3_48 (hX.th hW ht).s (fun _ => rfl) ?_
      refine J_cvI ((hX.t ht (by decide))) ?_
      refine J_iload dX3_together_91 rfl ?_
      refine J_imulN dX3_together_93 ?_
      refine J_aload_n dX3_together_94 rfl ?_
      refine J_getI dX3_together_95 fX3_48 (hX.th hW hb).s (fun _ => rfl) ?_
      refine J_cvI ((hX.t hb (by decide))) ?_
      refine J_iload dX3_together_98 rfl ?_
      refine J_imulN dX3_together_100 ?_
      refine J_iaddN dX3_together_101 ?_
      refine J_i2lN dX3_together_102 (by omega) ?_
      refine J_lstore (L' := [some (pR (some 98)), some (pR (some p)), some (pR (some (p + 9 + 7 * t))), some (pR (some (p + 9 + 7 * b))), some (pI (nI q)), some (pI (nI r)), some (pL (sL64 (fun w => lN (aP A 1 w 0) * PB (qX A t w) (qX A b w) (brA A t) (aP A 0 0 0) (q * 21 + r)) (aP A 0 2 0))), none, some (pL (lN (aP A 2 t 1 * q + aP A 2 b 1 * r))), none]) dX3_together_103 (by decide) rfl ?_
      refine J_lload dX3_together_105 rfl ?_
      refine J_lload dX3_together_107 rfl ?_
      refine J_iconstN (n := 2) dX3_together_109 ?_
      refine J_aload_n dX3_together_110 rfl ?_
      refine J_getI dX3_together_111 fX3_38 hX.po.s (fun _ => rfl) ?_
      refine J_cvI (hX.wk) ?_
      refine J_imulN dX3_together_114 ?_
      refine J_iconstN (n := 1) dX3_together_115 ?_
      refine J_iaddN dX3_together_116 ?_
      refine J_cNL (as := [pI (nI (2 * aP A 0 0 0 + 1))]) (st := [pL (lN (aP A 2 t 1 * q + aP A 2 b 1 * r)), pL (sL64 (fun w => lN (aP A 1 w 0) * PB (qX A t w) (qX A b w) (brA A t) (aP A 0 0 0) (q * 21 + r)) (aP A 0 2 0))]) dX3_together_117 lX3_53 okX9_tenTo sX9_tenTo rfl rfl (Nat.le_of_ble_eq_true rfl) ⟨Nat.le_of_ble_eq_true rfl, Nat.le_of_ble_eq_true rfl⟩ CR.f (c_X9_tenTo (by omega)) (fun vq2 gq2 eq2 => ?_)
      obtain ⟨rfl, fq2⟩ := eq2
      rw [fq2]
      refine J_lmul dX3_together_120 ?_
      refine J_lsub dX3_together_121 ?_
      exact J_retL dX3_together_122 rfl ⟨rfl, hI1⟩
    · exact (show False by omega).elim
  · show J _ _ _ _ _ [some (pR (some 98)), some (pR (some p)), some (pR (some (p + 9 + 7 * t))), some (pR (some (p + 9 + 7 * b))), some (pI (nI q)), some (pI (nI r)), some (pL (sL64 (fun w => lN (aP A 1 w 0) * PB (qX A t w) (qX A b w) (brA A t) (aP A 0 0 0) (q * 21 + r)) i1)), none, some (pI (nI i1)), none] _ _ h1
    have hX := hX0.fr hW hI1 (by decide) (by decide)
    have hG := hI1.g hG0
    refine J_iload dX3_together_6 rfl ?_
    refine J_aload_n dX3_together_8 rfl ?_
    refine J_getI dX3_together_9 fX3_28 hX.po.s (fun _ => rfl) ?_
    refine J_cvI (hX.wn) ?_
    refine J_icmp_geN dX3_together_12 (by omega) (by omega) (fun c3 => ?_) (fun c3 => ?_)
    · exact (show False by omega).elim
    · refine J_aload_n dX3_together_15 rfl ?_
      refine J_aload_n dX3_together_16 rfl ?_
      refine J_aload_n dX3_together_17 rfl ?_
      refine J_iload dX3_together_18 rfl ?_
      refine J_iload dX3_together_20 rfl ?_
      refine J_cVV (ci := 3) (c := 98) (as := [pR (some (p + 9 + 7 * t)), pR (some (p + 9 + 7 * b)), pI (nI q), pI (nI r)]) (st := []) dX3_together_22 lX3_34 okX3_valueEnd vX3_valueEnd s98 (by decide) rfl rfl rfl (Nat.le_of_ble_eq_true rfl) ⟨Nat.le_of_ble_eq_true rfl, Nat.le_of_ble_eq_true rfl⟩ CR.f (c_X3_valueEnd (u := aV A t i1) (v := aV A b i1) hG (hX.th hW ht) (hX.th hW hb) (hX.ta hW ht) (hX.ta hW hb) ba4 bb4 hq hr) (fun g1 e1 => ?_)
      obtain ⟨z1, z2, f1⟩ := e1
      have F1 := hI1.tr f1
      have hG := f1.g hG
      refine J_iconstN (n := 0) dX3_together_25 ?_
      refine J_istore (L' := [some (pR (some 98)), some (pR (some p)), some (pR (some (p + 9 + 7 * t))), some (pR (some (p + 9 + 7 * b))), some (pI (nI q)), some (pI (nI r)), some (pL (sL64 (fun w => lN (aP A 1 w 0) * PB (qX A t w) (qX A b w) (brA A t) (aP A 0 0 0) (q * 21 + r)) i1)), none, some (pI (nI i1)), some (pI (nI 0))]) dX3_together_26 (by decide) rfl ?_
      refine J_L (L' := [some (pR (some 98)), some (pR (some p)), some (pR (some (p + 9 + 7 * t))), some (pR (some (p + 9 + 7 * b))), some (pI (nI q)), some (pI (nI r)), some (pL (sL64 (fun w => lN (aP A 1 w 0) * PB (qX A t w) (qX A b w) (brA A t) (aP A 0 0 0) (q * 21 + r)) i1)), none, some (pI (nI i1)), some (pI (nI 0))]) rfl ?_
      refine J_forI (α := Unit) (L := fun i22 aa22 => [some (pR (some 98)), some (pR (some p)), some (pR (some (p + 9 + 7 * t))), some (pR (some (p + 9 + 7 * b))), some (pI (nI q)), some (pI (nI r)), some (pL (sL64 (fun w => lN (aP A 1 w 0) * PB (qX A t w) (qX A b w) (brA A t) (aP A 0 0 0) (q * 21 + r)) i1)), none, some (pI (nI i1)), some (pI (nI i22))]) (fun i22 aa22 h22 => (∀ x, x ≤ q → ∀ y, y ≤ r → h22.2.1 99 (x * 21 + y) = PB (qX A t i1) (qX A b i1) (brA A t) i22 (x * 21 + y)) ∧ h22.2.1 98 4 = tenL (2 * i22) ∧ Fr 98 102 h h22) (e := aP A 0 0 0) (fun aa22 h22 hI22 => ?_) (fun i22 aa22 h22 hi22 hI22 ih22 => ?_) 0 (()) _ (by omega) (⟨z1, z2, F1⟩)
      · show J _ _ _ _ _ [some (pR (some 98)), some (pR (some p)), some (pR (some (p + 9 + 7 * t))), some (pR (some (p + 9 + 7 * b))), some (pI (nI q)), some (pI (nI r)), some (pL (sL64 (fun w => lN (aP A 1 w 0) * PB (qX A t w) (qX A b w) (brA A t) (aP A 0 0 0) (q * 21 + r)) i1)), none, some (pI (nI i1)), some (pI (nI (aP A 0 0 0)))] _ _ h22
        obtain ⟨hK2, hK3, hK4⟩ := hI22
        have hX := hX0.fr hW hK4 (by decide) (by decide)
        have hG := hK4.g hG0
        refine J_iload dX3_together_28 rfl ?_
        refine J_aload_n dX3_together_30 rfl ?_
        refine J_getI dX3_together_31 fX3_38 hX.po.s (fun _ => rfl) ?_
        refine J_cvI (hX.wk) ?_
        refine J_icmp_geN dX3_together_34 (by omega) (by omega) (fun c4 => ?_) (fun c4 => ?_)
        · refine J_lload dX3_together_55 rfl ?_
          refine J_aload_n dX3_together_57 rfl ?_
          refine J_getR (r := some (p + 1)) dX3_together_58 fX3_45 hX.po.s (fun _ => rfl) (hX.po.e8 hG) ?_
          refine J_iload dX3_together_61 rfl ?_
          refine J_laldN dX3_together_63 hX.po.s1 (by decide) (by omega) ?_
          refine J_cvL ((hX.x hi1)) ?_
          refine J_aload_n dX3_together_64 rfl ?_
          refine J_getR (r := some 99) dX3_together_65 fX3_11 s98 (fun _ => rfl) (g98_0 hG) ?_
          refine J_iload dX3_together_68 rfl ?_
          refine J_bipush (x := nI 21) dX3_together_70 (by decide) ?_
          refine J_imulN dX3_together_72 ?_
          refine J_iload dX3_together_73 rfl ?_
          refine J_iaddN dX3_together_75 ?_
          refine J_laldN dX3_together_76 s99 (by decide) (by omega) ?_
          refine J_cvL ((hK2 q (Nat.le_refl q) r (Nat.le_refl r))) ?_
          refine J_lmul dX3_together_77 ?_
          refine J_ladd dX3_together_78 ?_
          refine J_lstore (L' := [some (pR (some 98)), some (pR (some p)), some (pR (some (p + 9 + 7 * t))), some (pR (some (p + 9 + 7 * b))), some (pI (nI q)), some (pI (nI r)), some (pL ((sL64 (fun w => lN (aP A 1 w 0) * PB (qX A t w) (qX A b w) (brA A t) (aP A 0 0 0) (q * 21 + r)) i1) + ((lN (aP A 1 i1 0)) * (PB (qX A t i1) (qX A b i1) (brA A t) (aP A 0 0 0) (q * 21 + r))))), none, some (pI (nI i1)), some (pI (nI (aP A 0 0 0)))]) dX3_together_79 (by decide) rfl ?_
          refine J_iincN (n := 1) (L' := [some (pR (some 98)), some (pR (some p)), some (pR (some (p + 9 + 7 * t))), some (pR (some (p + 9 + 7 * b))), some (pI (nI q)), some (pI (nI r)), some (pL ((sL64 (fun w => lN (aP A 1 w 0) * PB (qX A t w) (qX A b w) (brA A t) (aP A 0 0 0) (q * 21 + r)) i1) + ((lN (aP A 1 i1 0)) * (PB (qX A t i1) (qX A b i1) (brA A t) (aP A 0 0 0) (q * 21 + r))))), none, some (pI (nI (i1 + 1))), some (pI (nI (aP A 0 0 0)))]) dX3_together_81 rfl (by decide) rfl ?_
          refine J_goto dX3_together_84 ?_
          refine J_drop (L' := [some (pR (some 98)), some (pR (some p)), some (pR (some (p + 9 + 7 * t))), some (pR (some (p + 9 + 7 * b))), some (pI (nI q)), some (pI (nI r)), some (pL ((sL64 (fun w => lN (aP A 1 w 0) * PB (qX A t w) (qX A b w) (brA A t) (aP A 0 0 0) (q * 21 + r)) i1) + ((lN (aP A 1 i1 0)) * (PB (qX A t i1) (qX A b i1) (brA A t) (aP A 0 0 0) (q * 21 + r))))), none, some (pI (nI (i1 + 1))), none]) 9 rfl ?_
          refine J_L (L' := [some (pR (some 98)), some (pR (some p)), some (pR (some (p + 9 + 7 * t))), some (pR (some (p + 9 + 7 * b))), some (pI (nI q)), some (pI (nI r)), some (pL (sL64 (fun w => lN (aP A 1 w 0) * PB (qX A t w) (qX A b w) (brA A t) (aP A 0 0 0) (q * 21 + r)) (i1 + 1))), none, some (pI (nI (i1 + 1))), none]) rfl ?_
          exact ih1 () _ hK4
        · exact (show False by omega).elim
      · show J _ _ _ _ _ [some (pR (some 98)), some (pR (some p)), some (pR (some (p + 9 + 7 * t))), some (pR (some (p + 9 + 7 * b))), some (pI (nI q)), some (pI (nI r)), some (pL (sL64 (fun w => lN (aP A 1 w 0) * PB (qX A t w) (qX A b w) (brA A t) (aP A 0 0 0) (q * 21 + r)) i1)), none, some (pI (nI i1)), some (pI (nI i22))] _ _ h22
        obtain ⟨hK2, hK3, hK4⟩ := hI22
        have hX := hX0.fr hW hK4 (by decide) (by decide)
        have hG := hK4.g hG0
        refine J_iload dX3_together_28 rfl ?_
        refine J_aload_n dX3_together_30 rfl ?_
        refine J_getI dX3_together_31 fX3_38 hX.po.s (fun _ => rfl) ?_
        refine J_cvI (hX.wk) ?_
        refine J_icmp_geN dX3_together_34 (by omega) (by omega) (fun c5 => ?_) (fun c5 => ?_)
        · exact (show False by omega).elim
        · refine J_aload_n dX3_together_37 rfl ?_
          refine J_aload_n dX3_together_38 rfl ?_
          refine J_aload_n dX3_together_39 rfl ?_
          refine J_iload dX3_together_40 rfl ?_
          refine J_iload dX3_together_42 rfl ?_
          refine J_iload dX3_together_44 rfl ?_
          refine J_cVV (ci := 3) (c := 98) (as := [pR (some (p + 9 + 7 * t)), pR (some (p + 9 + 7 * b)), pI (nI i1), pI (nI q), pI (nI r)]) (st := []) dX3_together_46 lX3_41 okX3_weekBack vX3_weekBack s98 (by decide) rfl rfl rfl (Nat.le_of_ble_eq_true rfl) ⟨Nat.le_of_ble_eq_true rfl, Nat.le_of_ble_eq_true rfl⟩ CR.f (c_X3_weekBack (u := aV A t i1) (v := aV A b i1) (n := i22) hG (hX.th hW ht) (hX.th hW hb) (by omega) (hX.ta hW ht) (hX.ta hW hb) (hX.h7 ht hz) (hX.wa hW ht (by omega)) (hX.wa hW hb (by omega)) hK3 ba2 ba3 bb2 bb3 bp hq hr hK2) (fun g2 e2 => ?_)
          obtain ⟨y1, y2, f2⟩ := e2
          refine J_iincN (n := 1) (L' := [some (pR (some 98)), some (pR (some p)), some (pR (some (p + 9 + 7 * t))), some (pR (some (p + 9 + 7 * b))), some (pI (nI q)), some (pI (nI r)), some (pL (sL64 (fun w => lN (aP A 1 w 0) * PB (qX A t w) (qX A b w) (brA A t) (aP A 0 0 0) (q * 21 + r)) i1)), none, some (pI (nI i1)), some (pI (nI (i22 + 1)))]) dX3_together_49 rfl (by decide) rfl ?_
          refine J_goto dX3_together_52 ?_
          exact ih22 () _ ⟨y1, y2, hK4.tr f2⟩
theorem c_X9_isPaired {h : PH} {p : Nat} {A : AS} {t q r : Int32} (hG : GR h.2.2) (hX : XI h p A) (hW : WF A) : CtI mX9_isPaired h [pR (some 0), pI t, pI q, pI r] (fun v h' => v = bI ((inR t (aP A 0 3 0) ∧ aP A 4 (cl t) 0 ≠ 0) ∧ inR q 21 ∧ inR r 21 ∧ 0 < aP A 0 2 0) ∧ h' = h) := by
  have bN := hW.1
  have bk := hW.wk
  have bc := hW.cs
  have bw := hW.wn
  have bt := hW.tn
  have bf := hW.fn
  refine Ct.of (L := [some (pR (some 0)), some (pI t), some (pI q), some (pI r)]) rfl rfl (Nat.le_of_ble_eq_true rfl) rfl ?_
  refine J_aload_n dX9_isPaired_0 rfl ?_
  refine J_iload_n dX9_isPaired_1 rfl ?_
  refine J_cVI (ci := 9) (c := 0) (as := [pI t]) (st := []) dX9_isPaired_2 lX9_130 okX9_hasThing vX9_hasThing s0 (by decide) rfl rfl rfl (Nat.le_of_ble_eq_true rfl) ⟨Nat.le_of_ble_eq_true rfl, Nat.le_of_ble_eq_true rfl⟩ CR.f (c_X9_hasThing hG hX.po hX.cu hX.tn (by omega)) (fun vq1 gq1 eq1 => ?_)
  obtain ⟨rfl, fq1⟩ := eq1
  rw [fq1]
  refine J_if_eqB dX9_isPaired_5 (fun d1 => ?_) (fun d1 => ?_)
  · refine J_iconstN (n := 0) dX9_isPaired_61 ?_
    exact J_retZ dX9_isPaired_62 rfl rfl ⟨bI_f (fun q => d1 q.1.1), rfl⟩
  · have e1 := d1
    obtain ⟨j, hj, rfl⟩ := inR_of (d1)
    refine J_aload_n dX9_isPaired_8 rfl ?_
    refine J_aload_n dX9_isPaired_9 rfl ?_
    refine J_getR (r := some p) dX9_isPaired_10 fX9_20 s0 (fun _ => rfl) (hX.cu) ?_
    refine J_getR (r := some (p + 7)) dX9_isPaired_13 fX9_133 hX.po.s (fun _ => rfl) (hX.po.e10 hG) ?_
    refine J_iload_n dX9_isPaired_16 rfl ?_
    refine J_aald4N (r := some (p + 9 + 7 * j)) dX9_isPaired_17 hX.po.s7 (by decide) (by omega) (hX.po.eth hG (by omega)) ?_
    refine J_getI dX9_isPaired_18 fX9_161 (hX.th hW hj).s (fun _ => rfl) ?_
    refine J_cvI ((hX.h6 hj)) ?_
    refine J_cVI (ci := 9) (c := 0) (as := [pI (hlp (aP A 4 j 0))]) (st := []) dX9_isPaired_21 lX9_130 okX9_hasThing vX9_hasThing s0 (by decide) rfl rfl rfl (Nat.le_of_ble_eq_true rfl) ⟨Nat.le_of_ble_eq_true rfl, Nat.le_of_ble_eq_true rfl⟩ CR.f (c_X9_hasThing hG hX.po hX.cu hX.tn (by omega)) (fun vq3 gq3 eq3 => ?_)
    obtain ⟨rfl, fq3⟩ := eq3
    rw [fq3]
    refine J_if_eqB dX9_isPaired_24 (fun d2 => ?_) (fun d2 => ?_)
    · have hpj := hW.hp hj
      have d2n : ¬ aP A 4 j 0 ≠ 0 := fun z => d2 ((hlp_in hpj (by omega)).mpr z)
      have ec : cl (nI j) = j := nI_clamp (by omega)
      refine J_iconstN (n := 0) dX9_isPaired_61 ?_
      exact J_retZ dX9_isPaired_62 rfl rfl ⟨bI_f (fun q => d2n (by have y := q.1.2; rw [ec] at y; exact y)), rfl⟩
    · have hpj := hW.hp hj
      have d2n : aP A 4 j 0 ≠ 0 := (hlp_in hpj (by omega)).mp d2
      have ec : cl (nI j) = j := nI_clamp (by omega)
      refine J_aload_n dX9_isPaired_27 rfl ?_
      refine J_getR (r := some p) dX9_isPaired_28 fX9_20 s0 (fun _ => rfl) (hX.cu) ?_
      refine J_getI dX9_isPaired_31 fX9_110 hX.po.s (fun _ => rfl) ?_
      refine J_cvI (hX.wn) ?_
      refine J_if_leN dX9_isPaired_34 (by omega) (fun d3 => ?_) (fun d3 => ?_)
      · refine J_iconstN (n := 0) dX9_isPaired_61 ?_
        exact J_retZ dX9_isPaired_62 rfl rfl ⟨bI_f (fun q => absurd q.2.2.2 (by omega)), rfl⟩
      · refine J_iload_n dX9_isPaired_37 rfl ?_
        refine J_if_lt dX9_isPaired_38 (fun d4 => ?_) (fun d4 => ?_)
        · refine J_iconstN (n := 0) dX9_isPaired_61 ?_
          exact J_retZ dX9_isPaired_62 rfl rfl ⟨bI_f (fun q => absurd (lt_0_.mp d4) (by have := q.2.1.1; omega)), rfl⟩
        · refine J_iload_n dX9_isPaired_41 rfl ?_
          refine J_bipush (x := nI 20) dX9_isPaired_42 (by decide) ?_
          refine J_icmp_gt dX9_isPaired_44 (fun d5 => ?_) (fun d5 => ?_)
          · refine J_iconstN (n := 0) dX9_isPaired_61 ?_
            exact J_retZ dX9_isPaired_62 rfl rfl ⟨bI_f (fun q => absurd ((nI_lt_ (by decide)).mp d5) (by have := q.2.1.2; omega)), rfl⟩
          · refine J_iload_n dX9_isPaired_47 rfl ?_
            refine J_if_lt dX9_isPaired_48 (fun d6 => ?_) (fun d6 => ?_)
            · refine J_iconstN (n := 0) dX9_isPaired_61 ?_
              exact J_retZ dX9_isPaired_62 rfl rfl ⟨bI_f (fun q => absurd (lt_0_.mp d6) (by have := q.2.2.1.1; omega)), rfl⟩
            · refine J_iload_n dX9_isPaired_51 rfl ?_
              refine J_bipush (x := nI 20) dX9_isPaired_52 (by decide) ?_
              refine J_icmp_gt dX9_isPaired_54 (fun d7 => ?_) (fun d7 => ?_)
              · refine J_iconstN (n := 0) dX9_isPaired_61 ?_
                exact J_retZ dX9_isPaired_62 rfl rfl ⟨bI_f (fun q => absurd ((nI_lt_ (by decide)).mp d7) (by have := q.2.2.1.2; omega)), rfl⟩
              · refine J_iconstN (n := 1) dX9_isPaired_57 ?_
                refine J_goto dX9_isPaired_58 ?_
                exact J_retZ dX9_isPaired_62 rfl rfl ⟨bI_t ⟨⟨e1, by rw [ec]; exact d2n⟩, inR_d (n := 20) (by decide) d4 d5, inR_d (n := 20) (by decide) d6 d7, d3⟩, rfl⟩
theorem c_X9_instead_in {h : PH} {p : Nat} {A : AS} {t q r k : Nat} {b : Nat} (hG : GR h.2.2) (hX : XI h p A) (hW : WF A) (ht : t < aP A 0 3 0) (e4 : aP A 4 t 0 = b + 1) (hq : q ≤ 20) (hr : r ≤ 20) (hk : k < 2) (hn : 0 < aP A 0 2 0) : CtL mX9_instead h [pR (some 0), pI (nI t), pI (nI q), pI (nI r), pI (nI k)] (fun v h' => v = insV A t q r k ∧ XP h h' p A) := by
  have bN := hW.1
  have bk := hW.wk
  have bc := hW.cs
  have bw := hW.wn
  have bt := hW.tn
  have bf := hW.fn
  have hF : Fr 92 102 h h := Fr.rf
  have hb : b < aP A 0 3 0 := by have := hW.hp ht; omega
  have hz : aP A 4 t 0 ≠ 0 := by omega
  have hok : (inR (nI t) (aP A 0 3 0) ∧ aP A 4 (cl (nI t)) 0 ≠ 0) ∧ inR (nI q) 21 ∧ inR (nI r) 21 ∧ 0 < aP A 0 2 0 := ⟨⟨inR_nI ht (by omega), by rw [cl, nI_clamp (by omega)]; exact hz⟩, inR_nI (by omega) (by omega), inR_nI (by omega) (by omega), hn⟩
  refine Ct.of (L := [some (pR (some 0)), some (pI (nI t)), some (pI (nI q)), some (pI (nI r)), some (pI (nI k)), none, none, none, none, none, none]) rfl rfl (Nat.le_of_ble_eq_true rfl) rfl ?_
  refine J_aload_n dX9_instead_0 rfl ?_
  refine J_iload_n dX9_instead_1 rfl ?_
  refine J_iload_n dX9_instead_2 rfl ?_
  refine J_iload_n dX9_instead_3 rfl ?_
  refine J_cVI (ci := 9) (c := 0) (as := [pI (nI t), pI (nI q), pI (nI r)]) (st := []) dX9_instead_4 lX9_265 okX9_isPaired vX9_isPaired s0 (by decide) rfl rfl rfl (Nat.le_of_ble_eq_true rfl) ⟨Nat.le_of_ble_eq_true rfl, Nat.le_of_ble_eq_true rfl⟩ CR.f (c_X9_isPaired hG hX hW) (fun vq1 gq1 eq1 => ?_)
  obtain ⟨rfl, fq1⟩ := eq1
  rw [fq1]
  refine J_if_eqB dX9_instead_7 (fun c2 => ?_) (fun c2 => ?_)
  · exact absurd hok c2
  · refine J_iload dX9_instead_10 rfl ?_
    refine J_if_ltN dX9_instead_12 (by omega) ?_
    refine J_iload dX9_instead_15 rfl ?_
    refine J_iconstN (n := 1) dX9_instead_17 ?_
    refine J_icmp_leN dX9_instead_18 (by omega) (by omega) (fun c3 => ?_) (fun c3 => ?_)
    · refine J_aload_n dX9_instead_25 rfl ?_
      refine J_getR (r := some p) dX9_instead_26 fX9_20 s0 (fun _ => rfl) (hX.cu) ?_
      refine J_getR (r := some (p + 7)) dX9_instead_29 fX9_133 hX.po.s (fun _ => rfl) (hX.po.e10 hG) ?_
      refine J_iload_n dX9_instead_32 rfl ?_
      refine J_aald4N (r := some (p + 9 + 7 * t)) dX9_instead_33 hX.po.s7 (by decide) (by omega) (hX.po.eth hG (by omega)) ?_
      refine J_astore (L' := [some (pR (some 0)), some (pI (nI t)), some (pI (nI q)), some (pI (nI r)), some (pI (nI k)), some (pR (some (p + 9 + 7 * t))), none, none, none, none, none]) dX9_instead_34 (by decide) rfl ?_
      refine J_aload_n dX9_instead_36 rfl ?_
      refine J_getR (r := some p) dX9_instead_37 fX9_20 s0 (fun _ => rfl) (hX.cu) ?_
      refine J_getR (r := some (p + 7)) dX9_instead_40 fX9_133 hX.po.s (fun _ => rfl) (hX.po.e10 hG) ?_
      refine J_aload dX9_instead_43 rfl ?_
      refine J_getI dX9_instead_45 fX9_161 (hX.th hW ht).s (fun _ => rfl) ?_
      refine J_cvI ((show _ = nI b from (hX.h6 ht).trans (by rw [e4]; rfl))) ?_
      refine J_aald4N (r := some (p + 9 + 7 * b)) dX9_instead_48 hX.po.s7 (by decide) (by omega) (hX.po.eth hG (by omega)) ?_
      refine J_astore (L' := [some (pR (some 0)), some (pI (nI t)), some (pI (nI q)), some (pI (nI r)), some (pI (nI k)), some (pR (some (p + 9 + 7 * t))), some (pR (some (p + 9 + 7 * b))), none, none, none, none]) dX9_instead_49 (by decide) rfl ?_
      refine J_aload_n dX9_instead_51 rfl ?_
      refine J_getR (r := some 98) dX9_instead_52 fX9_44 s0 (fun _ => rfl) (g0_6 hG) ?_
      refine J_aload_n dX9_instead_55 rfl ?_
      refine J_getR (r := some p) dX9_instead_56 fX9_20 s0 (fun _ => rfl) (hX.cu) ?_
      refine J_aload dX9_instead_59 rfl ?_
      refine J_aload dX9_instead_61 rfl ?_
      refine J_iload_n dX9_instead_63 rfl ?_
      refine J_iload_n dX9_instead_64 rfl ?_
      refine J_cVL (ci := 3) (c := 98) (as := [pR (some p), pR (some (p + 9 + 7 * t)), pR (some (p + 9 + 7 * b)), pI (nI q), pI (nI r)]) (st := []) dX9_instead_65 lX9_268 okX3_together vX3_together s98 (by decide) rfl rfl rfl (Nat.le_of_ble_eq_true rfl) ⟨Nat.le_of_ble_eq_true rfl, Nat.le_of_ble_eq_true rfl⟩ CR.f (c_X3_together hG hX hW ht hb hz hq hr) (fun v1 g1 e1 => ?_)
      obtain ⟨rfl, f1⟩ := e1
      have hG := f1.g hG
      have hX := hX.fr hW f1 (by decide) (by decide)
      have hF := hF.tr (f1.mo (by decide) (by decide))
      refine J_lstore (L' := [some (pR (some 0)), some (pI (nI t)), some (pI (nI q)), some (pI (nI r)), some (pI (nI k)), some (pR (some (p + 9 + 7 * t))), some (pR (some (p + 9 + 7 * b))), some (pL (tgA A t b q r)), none, none, none]) dX9_instead_68 (by decide) rfl ?_
      refine J_iload dX9_instead_70 rfl ?_
      refine J_if_neN dX9_instead_72 (by omega) (fun c4 => ?_) (fun c4 => ?_)
      · refine J_aload_n dX9_instead_78 rfl ?_
        refine J_getR (r := some 92) dX9_instead_79 fX9_37 s0 (fun _ => rfl) (g0_5 hG) ?_
        refine J_aload_n dX9_instead_82 rfl ?_
        refine J_getR (r := some p) dX9_instead_83 fX9_20 s0 (fun _ => rfl) (hX.cu) ?_
        refine J_aload dX9_instead_86 rfl ?_
        refine J_aload_n dX9_instead_88 rfl ?_
        refine J_getR (r := some p) dX9_instead_89 fX9_20 s0 (fun _ => rfl) (hX.cu) ?_
        refine J_getR (r := some (p + 1)) dX9_instead_92 fX9_127 hX.po.s (fun _ => rfl) (hX.po.e8 hG) ?_
        refine J_iload_n dX9_instead_95 rfl ?_
        refine J_cVV (ci := 2) (c := 92) (as := [pR (some p), pR (some (p + 9 + 7 * t)), pR (some (p + 1)), pI (nI q)]) (st := []) dX9_instead_96 lX9_228 okX2_scoreRow vX2_scoreRow s92 (by decide) rfl rfl rfl (Nat.le_of_ble_eq_true rfl) ⟨Nat.le_of_ble_eq_true rfl, Nat.le_of_ble_eq_true rfl⟩ CR.f (c_X2_scoreRow hG hX.po (hX.th hW ht) (hX.ta hW ht) hX.wn (by omega) hX.wk (by omega) ⟨hX.po.s1, by have := hX.po.b; omega⟩ (x := aX A) (fun w hw => hX.x hw) (u := aV A t) (fun w hw => hX.wa hW ht (by omega)) (by omega)) (fun g2 eg2 => ?_)
        obtain ⟨yt, f2⟩ := eg2
        have hG := f2.g hG
        have hX := hX.fr hW f2 (by decide) (by decide)
        have hF := hF.tr (f2.mo (by decide) (by decide))
        refine J_aload_n dX9_instead_99 rfl ?_
        refine J_getR (r := some 92) dX9_instead_100 fX9_37 s0 (fun _ => rfl) (g0_5 hG) ?_
        refine J_getR (r := some 94) dX9_instead_103 fX9_215 s92 (fun _ => rfl) (g92_1 hG) ?_
        refine J_iload_n dX9_instead_106 rfl ?_
        refine J_laldN dX9_instead_107 s94 (by decide) (by omega) ?_
        refine J_cvL (((yt q (Nat.le_refl q)).trans scR_sOf)) ?_
        refine J_lstore (L' := [some (pR (some 0)), some (pI (nI t)), some (pI (nI q)), some (pI (nI r)), some (pI (nI k)), some (pR (some (p + 9 + 7 * t))), some (pR (some (p + 9 + 7 * b))), some (pL (tgA A t b q r)), none, some (pL (sOf A t q)), none]) dX9_instead_108 (by decide) rfl ?_
        refine J_aload_n dX9_instead_110 rfl ?_
        refine J_getR (r := some 92) dX9_instead_111 fX9_37 s0 (fun _ => rfl) (g0_5 hG) ?_
        refine J_aload_n dX9_instead_114 rfl ?_
        refine J_getR (r := some p) dX9_instead_115 fX9_20 s0 (fun _ => rfl) (hX.cu) ?_
        refine J_aload dX9_instead_118 rfl ?_
        refine J_aload_n dX9_instead_120 rfl ?_
        refine J_getR (r := some p) dX9_instead_121 fX9_20 s0 (fun _ => rfl) (hX.cu) ?_
        refine J_getR (r := some (p + 1)) dX9_instead_124 fX9_127 hX.po.s (fun _ => rfl) (hX.po.e8 hG) ?_
        refine J_iload_n dX9_instead_127 rfl ?_
        refine J_cVV (ci := 2) (c := 92) (as := [pR (some p), pR (some (p + 9 + 7 * b)), pR (some (p + 1)), pI (nI r)]) (st := []) dX9_instead_128 lX9_228 okX2_scoreRow vX2_scoreRow s92 (by decide) rfl rfl rfl (Nat.le_of_ble_eq_true rfl) ⟨Nat.le_of_ble_eq_true rfl, Nat.le_of_ble_eq_true rfl⟩ CR.f (c_X2_scoreRow hG hX.po (hX.th hW hb) (hX.ta hW hb) hX.wn (by omega) hX.wk (by omega) ⟨hX.po.s1, by have := hX.po.b; omega⟩ (x := aX A) (fun w hw => hX.x hw) (u := aV A b) (fun w hw => hX.wa hW hb (by omega)) (by omega)) (fun g3 eg3 => ?_)
        obtain ⟨yb, f2⟩ := eg3
        have hG := f2.g hG
        have hX := hX.fr hW f2 (by decide) (by decide)
        have hF := hF.tr (f2.mo (by decide) (by decide))
        refine J_lload dX9_instead_131 rfl ?_
        refine J_aload_n dX9_instead_133 rfl ?_
        refine J_getR (r := some 92) dX9_instead_134 fX9_37 s0 (fun _ => rfl) (g0_5 hG) ?_
        refine J_getR (r := some 94) dX9_instead_137 fX9_215 s92 (fun _ => rfl) (g92_1 hG) ?_
        refine J_iload_n dX9_instead_140 rfl ?_
        refine J_laldN dX9_instead_141 s94 (by decide) (by omega) ?_
        refine J_cvL (((yb r (Nat.le_refl r)).trans scR_sOf)) ?_
        refine J_ladd dX9_instead_142 ?_
        refine J_lstore (L' := [some (pR (some 0)), some (pI (nI t)), some (pI (nI q)), some (pI (nI r)), some (pI (nI k)), some (pR (some (p + 9 + 7 * t))), some (pR (some (p + 9 + 7 * b))), some (pL (tgA A t b q r)), none, some (pL ((sOf A t q) + (sOf A b r))), none]) dX9_instead_143 (by decide) rfl ?_
        refine J_lload dX9_instead_145 rfl ?_
        refine J_lload dX9_instead_147 rfl ?_
        refine J_aload_n dX9_instead_149 rfl ?_
        refine J_getR (r := some p) dX9_instead_150 fX9_20 s0 (fun _ => rfl) (hX.cu) ?_
        refine J_getI dX9_instead_153 fX9_104 hX.po.s (fun _ => rfl) ?_
        refine J_cvI (hX.wk) ?_
        refine J_cSL (as := [pI (nI (aP A 0 0 0))]) (st := [pL ((sOf A t q) + (sOf A b r)), pL (tgA A t b q r)]) dX9_instead_156 lX9_225 okX9_tenTo sX9_tenTo rfl rfl (Nat.le_of_ble_eq_true rfl) ⟨Nat.le_of_ble_eq_true rfl, Nat.le_of_ble_eq_true rfl⟩ CR.f (c_X9_tenTo (by omega)) (fun vq5 gq5 eq5 => ?_)
        obtain ⟨rfl, fq5⟩ := eq5
        rw [fq5]
        refine J_lmul dX9_instead_159 ?_
        refine J_lsub dX9_instead_160 ?_
        exact J_retL dX9_instead_161 rfl ⟨by unfold insV; rw [e4, if_neg (by omega)]; rfl, hX, hF.mo (by decide) (by decide)⟩
      · refine J_lload dX9_instead_75 rfl ?_
        exact J_retL dX9_instead_77 rfl ⟨by unfold insV; rw [e4, if_pos (by omega)]; rfl, hX, hF.mo (by decide) (by decide)⟩
    · exact (show False by omega).elim
theorem c_X9_instead_no {h : PH} {p : Nat} {A : AS} {t q r k : Int32} (hG : GR h.2.2) (hX : XI h p A) (hW : WF A) (hno : ¬ okI (aP A) t q r k) : CtL mX9_instead h [pR (some 0), pI t, pI q, pI r, pI k] (fun v h' => v = -9000000000000000000 ∧ XP h h' p A) := by
  have bN := hW.1
  have bk := hW.wk
  have bc := hW.cs
  have bw := hW.wn
  have bt := hW.tn
  have bf := hW.fn
  refine Ct.of (L := [some (pR (some 0)), some (pI t), some (pI q), some (pI r), some (pI k), none, none, none, none, none, none]) rfl rfl (Nat.le_of_ble_eq_true rfl) rfl ?_
  refine J_aload_n dX9_instead_0 rfl ?_
  refine J_iload_n dX9_instead_1 rfl ?_
  refine J_iload_n dX9_instead_2 rfl ?_
  refine J_iload_n dX9_instead_3 rfl ?_
  refine J_cVI (ci := 9) (c := 0) (as := [pI t, pI q, pI r]) (st := []) dX9_instead_4 lX9_265 okX9_isPaired vX9_isPaired s0 (by decide) rfl rfl rfl (Nat.le_of_ble_eq_true rfl) ⟨Nat.le_of_ble_eq_true rfl, Nat.le_of_ble_eq_true rfl⟩ CR.f (c_X9_isPaired hG hX hW) (fun vq1 gq1 eq1 => ?_)
  obtain ⟨rfl, fq1⟩ := eq1
  rw [fq1]
  refine J_if_eqB dX9_instead_7 (fun d1 => ?_) (fun d1 => ?_)
  · refine J_ldc2 dX9_instead_21 kX9_182 ?_
    exact J_retL dX9_instead_24 rfl ⟨rfl, hX, Fr.rf⟩
  · refine J_iload dX9_instead_10 rfl ?_
    refine J_if_lt dX9_instead_12 (fun d2 => ?_) (fun d2 => ?_)
    · refine J_ldc2 dX9_instead_21 kX9_182 ?_
      exact J_retL dX9_instead_24 rfl ⟨rfl, hX, Fr.rf⟩
    · refine J_iload dX9_instead_15 rfl ?_
      refine J_iconstN (n := 1) dX9_instead_17 ?_
      refine J_icmp_le dX9_instead_18 (fun d3 => ?_) (fun d3 => ?_)
      · exact absurd ⟨d1.1, d1.2.1, d1.2.2.1, inR_c (n := 1) (by decide) d2 d3, d1.2.2.2⟩ hno
      · refine J_ldc2 dX9_instead_21 kX9_182 ?_
        exact J_retL dX9_instead_24 rfl ⟨rfl, hX, Fr.rf⟩
theorem c_X9_instead {h : PH} {p : Nat} {A : AS} {t q r k : Int32} (hG : GR h.2.2) (hX : XI h p A) (hW : WF A) : CtL mX9_instead h [pR (some 0), pI t, pI q, pI r, pI k] (fun v h' => v = insteadA A t q r k ∧ XP h h' p A) := by
  by_cases hok : okI (aP A) t q r k
  · obtain ⟨⟨h1, h2⟩, h3, h4, h5, h6⟩ := id hok
    obtain ⟨t, ht, rfl⟩ := inR_of h1
    obtain ⟨q, hq, rfl⟩ := inR_of h3
    obtain ⟨r, hr, rfl⟩ := inR_of h4
    obtain ⟨k, hk, rfl⟩ := inR_of h5
    have bt := hW.tn
    rw [cl, nI_clamp (by omega)] at h2
    rw [insteadA, if_pos hok, cl, cl, cl, cl, nI_clamp (by omega), nI_clamp (by omega), nI_clamp (by omega), nI_clamp (by omega)]
    exact c_X9_instead_in (b := aP A 4 t 0 - 1) hG hX hW ht (by omega) (by omega) (by omega) hk h6
  · rw [insteadA, if_neg hok]
    exact c_X9_instead_no hG hX hW hok
