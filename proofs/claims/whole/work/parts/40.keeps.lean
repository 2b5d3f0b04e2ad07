theorem c_X9_keeps_in {h : PH} {p : Nat} {A : AS} {t q : Nat} (hG : GR h.2.2) (hX : XI h p A) (hW : WF A) (ht : t < aP A 0 3 0) (hq : q < 41) (hn : 0 < aP A 0 2 0) : CtI mX9_keeps h [pR (some 0), pI (nI t), pI (nI q)] (fun v h' => v = nI (bst (kf A t q) q) ∧ XP h h' p A) := by
  have bN := hW.1
  have bk := hW.wk
  have bc := hW.cs
  have bw := hW.wn
  have bt := hW.tn
  have bf := hW.fn
  have hG0 := hG
  have hW0 := hW
  have br := hW.ru ht
  refine Ct.of (L := [some (pR (some 0)), some (pI (nI t)), some (pI (nI q)), none, none, none, none, none, none, none]) rfl rfl (Nat.le_of_ble_eq_true rfl) rfl ?_
  refine J_aload_n dX9_keeps_0 rfl ?_
  refine J_iload_n dX9_keeps_1 rfl ?_
  refine J_cVI (ci := 9) (c := 0) (as := [pI (nI t)]) (st := []) dX9_keeps_2 lX9_130 okX9_hasThing vX9_hasThing s0 (by decide) rfl rfl rfl (Nat.le_of_ble_eq_true rfl) ⟨Nat.le_of_ble_eq_true rfl, Nat.le_of_ble_eq_true rfl⟩ CR.f (c_X9_hasThing hG hX.po hX.cu hX.tn (by omega)) (fun vq1 gq1 eq1 => ?_)
  obtain ⟨rfl, fq1⟩ := eq1
  rw [fq1]
  refine J_cvI (bI_congr (inR_nI_iff (by omega))) ?_
  refine J_if_eqB dX9_keeps_5 (fun c2 => ?_) (fun c2 => ?_)
  · exact (show False by omega).elim
  · refine J_iload_n dX9_keeps_8 rfl ?_
    refine J_cSI (as := [pI (nI q)]) (st := []) dX9_keeps_9 lX9_171 okX9_isOrder sX9_isOrder rfl rfl (Nat.le_of_ble_eq_true rfl) ⟨Nat.le_of_ble_eq_true rfl, Nat.le_of_ble_eq_true rfl⟩ CR.f (c_X9_isOrder) (fun vq3 gq3 eq3 => ?_)
    obtain ⟨rfl, fq3⟩ := eq3
    rw [fq3]
    refine J_cvI (bI_congr (inR_nI_iff (by omega))) ?_
    refine J_if_neB dX9_keeps_12 (fun c4 => ?_) (fun c4 => ?_)
    · refine J_aload_n dX9_keeps_18 rfl ?_
      refine J_getR (r := some p) dX9_keeps_19 fX9_20 s0 (fun _ => rfl) (hX.cu) ?_
      refine J_getI dX9_keeps_22 fX9_110 hX.po.s (fun _ => rfl) ?_
      refine J_cvI (hX.wn) ?_
      refine J_if_neN dX9_keeps_25 (by omega) (fun c5 => ?_) (fun c5 => ?_)
      · refine J_aload_n dX9_keeps_31 rfl ?_
        refine J_getR (r := some p) dX9_keeps_32 fX9_20 s0 (fun _ => rfl) (hX.cu) ?_
        refine J_getR (r := some (p + 7)) dX9_keeps_35 fX9_133 hX.po.s (fun _ => rfl) (hX.po.e10 hG) ?_
        refine J_iload_n dX9_keeps_38 rfl ?_
        refine J_aald4N (r := some (p + 9 + 7 * t)) dX9_keeps_39 hX.po.s7 (by decide) (by omega) (hX.po.eth hG (by omega)) ?_
        refine J_astore_n (L' := [some (pR (some 0)), some (pI (nI t)), some (pI (nI q)), some (pR (some (p + 9 + 7 * t))), none, none, none, none, none, none]) dX9_keeps_40 (by decide) rfl ?_
        refine J_aload_n dX9_keeps_41 rfl ?_
        refine J_getI dX9_keeps_42 fX9_235 (hX.th hW ht).s (fun _ => rfl) ?_
        refine J_cvI ((hX.2.2.2.1 t ht).1) ?_
        refine J_istore (L' := [some (pR (some 0)), some (pI (nI t)), some (pI (nI q)), some (pR (some (p + 9 + 7 * t))), some (pI (nI (aU A t 0))), none, none, none, none, none]) dX9_keeps_45 (by decide) rfl ?_
        refine J_aload_n dX9_keeps_47 rfl ?_
        refine J_getI dX9_keeps_48 fX9_238 (hX.th hW ht).s (fun _ => rfl) ?_
        refine J_cvI ((hX.2.2.2.1 t ht).2) ?_
        refine J_istore (L' := [some (pR (some 0)), some (pI (nI t)), some (pI (nI q)), some (pR (some (p + 9 + 7 * t))), some (pI (nI (aU A t 0))), some (pI (nI (aU A t 1))), none, none, none, none]) dX9_keeps_51 (by decide) rfl ?_
        refine J_iconstN (n := 0) dX9_keeps_53 ?_
        refine J_istore (L' := [some (pR (some 0)), some (pI (nI t)), some (pI (nI q)), some (pR (some (p + 9 + 7 * t))), some (pI (nI (aU A t 0))), some (pI (nI (aU A t 1))), some (pI (nI 0)), none, none, none]) dX9_keeps_54 (by decide) rfl ?_
        refine J_lconst (x := 0) dX9_keeps_56 rfl ?_
        refine J_lstore (L' := [some (pR (some 0)), some (pI (nI t)), some (pI (nI q)), some (pR (some (p + 9 + 7 * t))), some (pI (nI (aU A t 0))), some (pI (nI (aU A t 1))), some (pI (nI 0)), some (pL 0), none, none]) dX9_keeps_57 (by decide) rfl ?_
        refine J_iconstN (n := 0) dX9_keeps_59 ?_
        refine J_istore (L' := [some (pR (some 0)), some (pI (nI t)), some (pI (nI q)), some (pR (some (p + 9 + 7 * t))), some (pI (nI (aU A t 0))), some (pI (nI (aU A t 1))), some (pI (nI 0)), some (pL 0), none, some (pI (nI 0))]) dX9_keeps_60 (by decide) rfl ?_
        refine J_L (L' := [some (pR (some 0)), some (pI (nI t)), some (pI (nI q)), some (pR (some (p + 9 + 7 * t))), some (pI (nI (aU A t 0))), some (pI (nI (aU A t 1))), some (pI (nI (bst (kf A t q) (0 - 1)))), some (pL (mst (kf A t q) 0)), none, some (pI (nI 0))]) rfl ?_
        refine J_forI (α := Nat → Nat) (L := fun i1 aa1 => [some (pR (some 0)), some (pI (nI t)), some (pI (nI q)), some (pR (some (p + 9 + 7 * t))), some (pI (nI (aU A t 0))), some (pI (nI (aU A t 1))), some (pI (nI (bst (kf A t q) (i1 - 1)))), some (pL (mst (kf A t q) i1)), none, some (pI (nI i1))]) (fun i1 aa1 h1 => XI h1 p (zU A t aa1) ∧ Fr 2 102 h h1 ∧ aa1 0 ≤ 2 ∧ aa1 1 ≤ 40) (e := q + 1) (fun aa1 h1 hI1 => ?_) (fun i1 aa1 h1 hi1 hI1 ih1 => ?_) 0 (aU A t) _ (by omega) (⟨by rw [zU_0]; exact hX, Fr.rf, (hW.ru ht).1, (hW.ru ht).2⟩)
        · show J _ _ _ _ _ [some (pR (some 0)), some (pI (nI t)), some (pI (nI q)), some (pR (some (p + 9 + 7 * t))), some (pI (nI (aU A t 0))), some (pI (nI (aU A t 1))), some (pI (nI (bst (kf A t q) (q + 1 - 1)))), some (pL (mst (kf A t q) (q + 1))), none, some (pI (nI (q + 1)))] _ _ h1
          obtain ⟨hX, hF, b0, b1⟩ := hI1
          have hG : GR h1.2.2 := by rw [hF.2]; exact hG0
          have hW := hW0.zU (t := t) (z := aa1) b0 b1
          refine J_iload dX9_keeps_62 rfl ?_
          refine J_iload_n dX9_keeps_64 rfl ?_
          refine J_icmp_gtN dX9_keeps_65 (by omega) (by omega) (fun c6 => ?_) (fun c6 => ?_)
          · refine J_aload_n dX9_keeps_136 rfl ?_
            refine J_iload dX9_keeps_137 rfl ?_
            refine J_iload dX9_keeps_139 rfl ?_
            refine J_cVV (ci := 7) (c := p + 9 + 7 * t) (as := [pI (nI (aU A t 0)), pI (nI (aU A t 1))]) (st := []) dX9_keeps_141 lX9_174 okX7_setRule vX7_setRule (hX.th hW ht).s (by decide) rfl rfl rfl (Nat.le_of_ble_eq_true rfl) ⟨Nat.le_of_ble_eq_true rfl, Nat.le_of_ble_eq_true rfl⟩ CR.f (c_X7_setRule (hX.th hW ht)) (fun g7 eg7 => ?_)
            have hF : Fr 2 102 h g7 := hF.tr (by rw [eg7]; exact ((Fr.tr (Fr.sI (c := p + 9 + 7 * t) (by have := hX.po.b; omega) (by have := hX.po.b; omega)) (Fr.sI (c := p + 9 + 7 * t) (by have := hX.po.b; omega) (by have := hX.po.b; omega))) : Fr 2 102 h1 _))
            have hX := hX.zr (k := aU A t 0) (l := aU A t 1) hW ht
            rw [← eg7] at hX
            have hG : GR g7.2.2 := by rw [hF.2]; exact hG0
            refine J_iload dX9_keeps_144 rfl ?_
            exact J_retI dX9_keeps_146 rfl ⟨rfl, by have hX := hX.zc (z' := aU A t) rfl rfl; rw [zU_0] at hX; exact hX, hF.mo (by decide) (by decide)⟩
          · exact (show False by omega).elim
        · show J _ _ _ _ _ [some (pR (some 0)), some (pI (nI t)), some (pI (nI q)), some (pR (some (p + 9 + 7 * t))), some (pI (nI (aU A t 0))), some (pI (nI (aU A t 1))), some (pI (nI (bst (kf A t q) (i1 - 1)))), some (pL (mst (kf A t q) i1)), none, some (pI (nI i1))] _ _ h1
          obtain ⟨hX, hF, b0, b1⟩ := hI1
          have hG : GR h1.2.2 := by rw [hF.2]; exact hG0
          have hW := hW0.zU (t := t) (z := aa1) b0 b1
          refine J_iload dX9_keeps_62 rfl ?_
          refine J_iload_n dX9_keeps_64 rfl ?_
          refine J_icmp_gtN dX9_keeps_65 (by omega) (by omega) (fun c8 => ?_) (fun c8 => ?_)
          · exact (show False by omega).elim
          · refine J_aload_n dX9_keeps_68 rfl ?_
            refine J_iconstN (n := 1) dX9_keeps_69 ?_
            refine J_iload dX9_keeps_70 rfl ?_
            refine J_cVV (ci := 7) (c := p + 9 + 7 * t) (as := [pI (nI 1), pI (nI i1)]) (st := []) dX9_keeps_72 lX9_174 okX7_setRule vX7_setRule (hX.th hW ht).s (by decide) rfl rfl rfl (Nat.le_of_ble_eq_true rfl) ⟨Nat.le_of_ble_eq_true rfl, Nat.le_of_ble_eq_true rfl⟩ CR.f (c_X7_setRule (hX.th hW ht)) (fun g9 eg9 => ?_)
            have hF : Fr 2 102 h g9 := hF.tr (by rw [eg9]; exact ((Fr.tr (Fr.sI (c := p + 9 + 7 * t) (by have := hX.po.b; omega) (by have := hX.po.b; omega)) (Fr.sI (c := p + 9 + 7 * t) (by have := hX.po.b; omega) (by have := hX.po.b; omega))) : Fr 2 102 h1 _))
            have hX := hX.zr (k := 1) (l := i1) hW ht
            rw [← eg9] at hX
            have hG : GR g9.2.2 := by rw [hF.2]; exact hG0
            have hW := hW0.zU (t := t) (z := fun i => if i = 0 then 1 else i1) (by show 1 ≤ 2; decide) (by show i1 ≤ 40; omega)
            have bw2 := hW.wn
            have bk2 := hW.wk
            have bt2 := hW.tn
            refine J_aload_n dX9_keeps_75 rfl ?_
            refine J_getR (r := some 92) dX9_keeps_76 fX9_37 s0 (fun _ => rfl) (g0_5 hG) ?_
            refine J_aload_n dX9_keeps_79 rfl ?_
            refine J_getR (r := some p) dX9_keeps_80 fX9_20 s0 (fun _ => rfl) (hX.cu) ?_
            refine J_aload_n dX9_keeps_83 rfl ?_
            refine J_aload_n dX9_keeps_84 rfl ?_
            refine J_getR (r := some p) dX9_keeps_85 fX9_20 s0 (fun _ => rfl) (hX.cu) ?_
            refine J_getR (r := some (p + 1)) dX9_keeps_88 fX9_127 hX.po.s (fun _ => rfl) (hX.po.e8 hG) ?_
            refine J_iload_n dX9_keeps_91 rfl ?_
            refine J_cVV (ci := 2) (c := 92) (as := [pR (some p), pR (some (p + 9 + 7 * t)), pR (some (p + 1)), pI (nI q)]) (st := []) dX9_keeps_92 lX9_228 okX2_scoreRow vX2_scoreRow s92 (by decide) rfl rfl rfl (Nat.le_of_ble_eq_true rfl) ⟨Nat.le_of_ble_eq_true rfl, Nat.le_of_ble_eq_true rfl⟩ CR.f (c_X2_scoreRow hG hX.po (hX.th hW ht) (hX.ta hW ht) hX.wn (by omega) hX.wk (by omega) ⟨hX.po.s1, by have := hX.po.b; omega⟩ (x := aX A) (fun w hw => hX.x hw) (u := aV A t) (fun w hw => hX.wa hW ht (by omega)) (by omega)) (fun g10 eg10 => ?_)
            obtain ⟨z1, f1⟩ := eg10
            have zi := ((z1 q (Nat.le_refl q)).trans scR_sOf).trans (zU_sOf (A := A) (t := t) (q := q) (k := i1) rfl rfl)
            have hG := f1.g hG
            have hX := hX.fr hW f1 (by decide) (by decide)
            have hF := hF.tr (f1.mo (by decide) (by decide))
            refine J_iload dX9_keeps_95 rfl ?_
            refine J_if_eqN dX9_keeps_97 (by omega) (fun k0 => ?_) (fun k0 => ?_)
            · refine J_iload dX9_keeps_115 rfl ?_
              refine J_istore (L' := [some (pR (some 0)), some (pI (nI t)), some (pI (nI q)), some (pR (some (p + 9 + 7 * t))), some (pI (nI (aU A t 0))), some (pI (nI (aU A t 1))), some (pI (nI i1)), some (pL (mst (kf A t q) i1)), none, some (pI (nI i1))]) dX9_keeps_117 (by decide) rfl ?_
              refine J_aload_n dX9_keeps_119 rfl ?_
              refine J_getR (r := some 92) dX9_keeps_120 fX9_37 s0 (fun _ => rfl) (g0_5 hG) ?_
              refine J_getR (r := some 94) dX9_keeps_123 fX9_215 s92 (fun _ => rfl) (g92_1 hG) ?_
              refine J_iload_n dX9_keeps_126 rfl ?_
              refine J_laldN dX9_keeps_127 s94 (by decide) (by omega) ?_
              refine J_cvL (zi) ?_
              refine J_lstore (L' := [some (pR (some 0)), some (pI (nI t)), some (pI (nI q)), some (pR (some (p + 9 + 7 * t))), some (pI (nI (aU A t 0))), some (pI (nI (aU A t 1))), some (pI (nI i1)), some (pL (kf A t q i1)), none, some (pI (nI i1))]) dX9_keeps_128 (by decide) rfl ?_
              refine J_iincN (n := 1) (L' := [some (pR (some 0)), some (pI (nI t)), some (pI (nI q)), some (pR (some (p + 9 + 7 * t))), some (pI (nI (aU A t 0))), some (pI (nI (aU A t 1))), some (pI (nI i1)), some (pL (kf A t q i1)), none, some (pI (nI (i1 + 1)))]) dX9_keeps_130 rfl (by decide) rfl ?_
              refine J_goto dX9_keeps_133 ?_
              have K := ih1 (fun i => if i = 0 then 1 else i1) _ ⟨hX, hF, by show 1 ≤ 2; decide, by show i1 ≤ 40; omega⟩
              rw [(show bst (kf A t q) (i1 + 1 - 1) = i1 from bst_1.trans (bst_take (Or.inl k0))), mst_take (Or.inl k0)] at K
              exact K
            · refine J_aload_n dX9_keeps_100 rfl ?_
              refine J_getR (r := some 92) dX9_keeps_101 fX9_37 s0 (fun _ => rfl) (g0_5 hG) ?_
              refine J_getR (r := some 94) dX9_keeps_104 fX9_215 s92 (fun _ => rfl) (g92_1 hG) ?_
              refine J_iload_n dX9_keeps_107 rfl ?_
              refine J_laldN dX9_keeps_108 s94 (by decide) (by omega) ?_
              refine J_cvL (zi) ?_
              refine J_lload dX9_keeps_109 rfl ?_
              refine J_lcmp dX9_keeps_111 ?_
              refine J_lif_le dX9_keeps_112 (fun k1 => ?_) (fun k1 => ?_)
              · refine J_iincN (n := 1) (L' := [some (pR (some 0)), some (pI (nI t)), some (pI (nI q)), some (pR (some (p + 9 + 7 * t))), some (pI (nI (aU A t 0))), some (pI (nI (aU A t 1))), some (pI (nI (bst (kf A t q) (i1 - 1)))), some (pL (mst (kf A t q) i1)), none, some (pI (nI (i1 + 1)))]) dX9_keeps_130 rfl (by decide) rfl ?_
                refine J_goto dX9_keeps_133 ?_
                have K := ih1 (fun i => if i = 0 then 1 else i1) _ ⟨hX, hF, by show 1 ≤ 2; decide, by show i1 ≤ 40; omega⟩
                rw [(show bst (kf A t q) (i1 + 1 - 1) = bst (kf A t q) (i1 - 1) from bst_1.trans (bst_keep k0 (Int64.not_lt.mpr k1))), mst_keep k0 (Int64.not_lt.mpr k1)] at K
                exact K
              · refine J_iload dX9_keeps_115 rfl ?_
                refine J_istore (L' := [some (pR (some 0)), some (pI (nI t)), some (pI (nI q)), some (pR (some (p + 9 + 7 * t))), some (pI (nI (aU A t 0))), some (pI (nI (aU A t 1))), some (pI (nI i1)), some (pL (mst (kf A t q) i1)), none, some (pI (nI i1))]) dX9_keeps_117 (by decide) rfl ?_
                refine J_aload_n dX9_keeps_119 rfl ?_
                refine J_getR (r := some 92) dX9_keeps_120 fX9_37 s0 (fun _ => rfl) (g0_5 hG) ?_
                refine J_getR (r := some 94) dX9_keeps_123 fX9_215 s92 (fun _ => rfl) (g92_1 hG) ?_
                refine J_iload_n dX9_keeps_126 rfl ?_
                refine J_laldN dX9_keeps_127 s94 (by decide) (by omega) ?_
                refine J_cvL (zi) ?_
                refine J_lstore (L' := [some (pR (some 0)), some (pI (nI t)), some (pI (nI q)), some (pR (some (p + 9 + 7 * t))), some (pI (nI (aU A t 0))), some (pI (nI (aU A t 1))), some (pI (nI i1)), some (pL (kf A t q i1)), none, some (pI (nI i1))]) dX9_keeps_128 (by decide) rfl ?_
                refine J_iincN (n := 1) (L' := [some (pR (some 0)), some (pI (nI t)), some (pI (nI q)), some (pR (some (p + 9 + 7 * t))), some (pI (nI (aU A t 0))), some (pI (nI (aU A t 1))), some (pI (nI i1)), some (pL (kf A t q i1)), none, some (pI (nI (i1 + 1)))]) dX9_keeps_130 rfl (by decide) rfl ?_
                refine J_goto dX9_keeps_133 ?_
                have K := ih1 (fun i => if i = 0 then 1 else i1) _ ⟨hX, hF, by show 1 ≤ 2; decide, by show i1 ≤ 40; omega⟩
                rw [(show bst (kf A t q) (i1 + 1 - 1) = i1 from bst_1.trans (bst_take (Or.inr (Int64.not_le.mp k1)))), mst_take (Or.inr (Int64.not_le.mp k1))] at K
                exact K
      · exact (show False by omega).elim
    · exact (show False by omega).elim
theorem c_X9_keeps_no {h : PH} {p : Nat} {A : AS} {t q : Int32} (hG : GR h.2.2) (hX : XI h p A) (hW : WF A) (hno : ¬ ((inR t (aP A 0 3 0) ∧ inR q 41) ∧ 0 < aP A 0 2 0)) : CtI mX9_keeps h [pR (some 0), pI t, pI q] (fun v h' => v = (if inR t (aP A 0 3 0) ∧ inR q 41 then -4 else -2) ∧ XP h h' p A) := by
  have bN := hW.1
  have bk := hW.wk
  have bc := hW.cs
  have bw := hW.wn
  have bt := hW.tn
  have bf := hW.fn
  refine Ct.of (L := [some (pR (some 0)), some (pI t), some (pI q), none, none, none, none, none, none, none]) rfl rfl (Nat.le_of_ble_eq_true rfl) rfl ?_
  refine J_aload_n dX9_keeps_0 rfl ?_
  refine J_iload_n dX9_keeps_1 rfl ?_
  refine J_cVI (ci := 9) (c := 0) (as := [pI t]) (st := []) dX9_keeps_2 lX9_130 okX9_hasThing vX9_hasThing s0 (by decide) rfl rfl rfl (Nat.le_of_ble_eq_true rfl) ⟨Nat.le_of_ble_eq_true rfl, Nat.le_of_ble_eq_true rfl⟩ CR.f (c_X9_hasThing hG hX.po hX.cu hX.tn (by omega)) (fun vq1 gq1 eq1 => ?_)
  obtain ⟨rfl, fq1⟩ := eq1
  rw [fq1]
  refine J_if_eqB dX9_keeps_5 (fun d1 => ?_) (fun d1 => ?_)
  · refine J_bipush (x := (-2)) dX9_keeps_15 (by decide) ?_
    exact J_retI dX9_keeps_17 rfl ⟨(if_neg (fun q => d1 q.1)).symm, hX, Fr.rf⟩
  · refine J_iload_n dX9_keeps_8 rfl ?_
    refine J_cSI (as := [pI q]) (st := []) dX9_keeps_9 lX9_171 okX9_isOrder sX9_isOrder rfl rfl (Nat.le_of_ble_eq_true rfl) ⟨Nat.le_of_ble_eq_true rfl, Nat.le_of_ble_eq_true rfl⟩ CR.f (c_X9_isOrder) (fun vq3 gq3 eq3 => ?_)
    obtain ⟨rfl, fq3⟩ := eq3
    rw [fq3]
    refine J_if_neB dX9_keeps_12 (fun d2 => ?_) (fun d2 => ?_)
    · refine J_aload_n dX9_keeps_18 rfl ?_
      refine J_getR (r := some p) dX9_keeps_19 fX9_20 s0 (fun _ => rfl) (hX.cu) ?_
      refine J_getI dX9_keeps_22 fX9_110 hX.po.s (fun _ => rfl) ?_
      refine J_cvI (hX.wn) ?_
      refine J_if_neN dX9_keeps_25 (by omega) (fun d4 => ?_) (fun d4 => ?_)
      · exact absurd ⟨⟨d1, d2⟩, by omega⟩ hno
      · refine J_bipush (x := (-4)) dX9_keeps_28 (by decide) ?_
        exact J_retI dX9_keeps_30 rfl ⟨(if_pos ⟨d1, d2⟩).symm, hX, Fr.rf⟩
    · refine J_bipush (x := (-2)) dX9_keeps_15 (by decide) ?_
      exact J_retI dX9_keeps_17 rfl ⟨(if_neg (fun q => d2 q.2)).symm, hX, Fr.rf⟩
theorem c_X9_keeps {h : PH} {p : Nat} {A : AS} {t q : Int32} (hG : GR h.2.2) (hX : XI h p A) (hW : WF A) : CtI mX9_keeps h [pR (some 0), pI t, pI q] (fun v h' => v = keepsA A t q ∧ XP h h' p A) := by
  by_cases hok : (inR t (aP A 0 3 0) ∧ inR q 41) ∧ 0 < aP A 0 2 0
  · obtain ⟨⟨h1, h2⟩, h3⟩ := id hok
    obtain ⟨t, ht, rfl⟩ := inR_of h1
    obtain ⟨q, hq, rfl⟩ := inR_of h2
    have bt := hW.tn
    rw [keepsA, if_pos hok.1, if_neg (by omega), cl, cl, nI_clamp (by omega), nI_clamp (by omega)]
    exact c_X9_keeps_in hG hX hW ht hq h3
  · have e : keepsA A t q = if inR t (aP A 0 3 0) ∧ inR q 41 then -4 else -2 := by
      unfold keepsA
      by_cases z : inR t (aP A 0 3 0) ∧ inR q 41
      · rw [if_pos z, if_pos z, if_pos (Nat.eq_zero_of_not_pos (fun y => hok ⟨z, y⟩))]
      · rw [if_neg z, if_neg z]
    rw [e]
    exact c_X9_keeps_no hG hX hW hok
theorem c_X10_keeps_in {h : PH} {A : AS} {t q : Nat} (hG : GR h.2.2) (hM : MI h A) (hW : WF A) (ht : t < aP A 0 3 0) (hq : q < 41) (hn : 0 < aP A 0 2 0) : CtI mX10_keeps h [pR (some 158), pI (nI t), pI (nI q)] (fun v h' => v = nI (bst (kf A t q) q) ∧ MP h h' A) := by
  have bN := hW.1
  have bk := hW.wk
  have bc := hW.cs
  have bw := hW.wn
  have bt := hW.tn
  have bf := hW.fn
  have hG0 := hG
  have hW0 := hW
  have br := hW.ru ht
  refine Ct.of (L := [some (pR (some 158)), some (pI (nI t)), some (pI (nI q)), none, none, none, none, none, none, none, none]) rfl rfl (Nat.le_of_ble_eq_true rfl) rfl ?_
  refine J_aload_n dX10_keeps_0 rfl ?_
  refine J_iload_n dX10_keeps_1 rfl ?_
  refine J_cVI (ci := 10) (c := 158) (as := [pI (nI t)]) (st := []) dX10_keeps_2 lX10_243 okX10_isThing vX10_isThing s158 (by decide) rfl rfl rfl (Nat.le_of_ble_eq_true rfl) ⟨Nat.le_of_ble_eq_true rfl, Nat.le_of_ble_eq_true rfl⟩ CR.f (c_X10_isThing hG (hM.nm (by decide)) (by omega)) (fun vq1 gq1 eq1 => ?_)
  obtain ⟨rfl, fq1⟩ := eq1
  rw [fq1]
  refine J_cvI (bI_congr (inR_nI_iff (by omega))) ?_
  refine J_if_eqB dX10_keeps_5 (fun c2 => ?_) (fun c2 => ?_)
  · exact (show False by omega).elim
  · refine J_iload_n dX10_keeps_8 rfl ?_
    refine J_cSI (as := [pI (nI q)]) (st := []) dX10_keeps_9 lX10_303 okX10_isOrder sX10_isOrder rfl rfl (Nat.le_of_ble_eq_true rfl) ⟨Nat.le_of_ble_eq_true rfl, Nat.le_of_ble_eq_true rfl⟩ CR.f (c_X10_isOrder) (fun vq3 gq3 eq3 => ?_)
    obtain ⟨rfl, fq3⟩ := eq3
    rw [fq3]
    refine J_cvI (bI_congr (inR_nI_iff (by omega))) ?_
    refine J_if_neB dX10_keeps_12 (fun c4 => ?_) (fun c4 => ?_)
    · refine J_aload_n dX10_keeps_18 rfl ?_
      refine J_cVI (ci := 10) (c := 158) (as := []) (st := []) dX10_keeps_19 lX10_234 okX10_hasWinters vX10_hasWinters s158 (by decide) rfl rfl rfl (Nat.le_of_ble_eq_true rfl) ⟨Nat.le_of_ble_eq_true rfl, Nat.le_of_ble_eq_true rfl⟩ CR.f (c_X10_hasWinters hG (hM.nm (by decide)) (by omega)) (fun vq5 gq5 eq5 => ?_)
      obtain ⟨rfl, fq5⟩ := eq5
      rw [fq5]
      refine J_if_neB dX10_keeps_22 (fun c6 => ?_) (fun c6 => ?_)
      · refine J_aload_n dX10_keeps_28 rfl ?_
        refine J_getR (r := some 171) dX10_keeps_29 fX10_53 s158 (fun _ => rfl) (g158_25 hG) ?_
        refine J_iload_n dX10_keeps_32 rfl ?_
        refine J_ialdN dX10_keeps_33 s171 (by decide) (by omega) ?_
        refine J_cvI ((hM.2.2.1 t ht).1) ?_
        refine J_istore_n (L' := [some (pR (some 158)), some (pI (nI t)), some (pI (nI q)), some (pI (nI (aU A t 0))), none, none, none, none, none, none, none]) dX10_keeps_34 (by decide) rfl ?_
        refine J_aload_n dX10_keeps_35 rfl ?_
        refine J_getR (r := some 172) dX10_keeps_36 fX10_56 s158 (fun _ => rfl) (g158_26 hG) ?_
        refine J_iload_n dX10_keeps_39 rfl ?_
        refine J_ialdN dX10_keeps_40 s172 (by decide) (by omega) ?_
        refine J_cvI ((hM.2.2.1 t ht).2) ?_
        refine J_istore (L' := [some (pR (some 158)), some (pI (nI t)), some (pI (nI q)), some (pI (nI (aU A t 0))), some (pI (nI (aU A t 1))), none, none, none, none, none, none]) dX10_keeps_41 (by decide) rfl ?_
        refine J_aload_n dX10_keeps_43 rfl ?_
        refine J_getR (r := some 171) dX10_keeps_44 fX10_53 s158 (fun _ => rfl) (g158_25 hG) ?_
        refine J_iload_n dX10_keeps_47 rfl ?_
        refine J_iconstN (n := 1) dX10_keeps_48 ?_
        refine J_iastN dX10_keeps_49 s171 (by decide) (by omega) ?_
        refine J_iconst (x := -1) dX10_keeps_50 (by decide) ?_
        refine J_istore (L' := [some (pR (some 158)), some (pI (nI t)), some (pI (nI q)), some (pI (nI (aU A t 0))), some (pI (nI (aU A t 1))), some (pI ((-1))), none, none, none, none, none]) dX10_keeps_51 (by decide) rfl ?_
        refine J_lconst (x := 0) dX10_keeps_53 rfl ?_
        refine J_lstore (L' := [some (pR (some 158)), some (pI (nI t)), some (pI (nI q)), some (pI (nI (aU A t 0))), some (pI (nI (aU A t 1))), some (pI ((-1))), some (pL 0), none, none, none, none]) dX10_keeps_54 (by decide) rfl ?_
        refine J_iconstN (n := 0) dX10_keeps_56 ?_
        refine J_istore (L' := [some (pR (some 158)), some (pI (nI t)), some (pI (nI q)), some (pI (nI (aU A t 0))), some (pI (nI (aU A t 1))), some (pI ((-1))), some (pL 0), none, some (pI (nI 0)), none, none]) dX10_keeps_57 (by decide) rfl ?_
        have M0 : MI (sI h 171 t (nI 1)) (zU A t (fun i => if i = 0 then 1 else aU A t 1)) := MI.z0 (z := aU A t) (by rw [zU_0]; exact hM) (by rw [zU_0]; exact hW) ht
        refine J_L (L' := [some (pR (some 158)), some (pI (nI t)), some (pI (nI q)), some (pI (nI (aU A t 0))), some (pI (nI (aU A t 1))), some (pI (bsN (kf A t q) 0)), some (pL (mst (kf A t q) 0)), none, some (pI (nI 0)), none, none]) rfl ?_
        refine J_forI (α := Nat → Nat) (L := fun i1 aa1 => [some (pR (some 158)), some (pI (nI t)), some (pI (nI q)), some (pI (nI (aU A t 0))), some (pI (nI (aU A t 1))), some (pI (bsN (kf A t q) i1)), some (pL (mst (kf A t q) i1)), none, some (pI (nI i1)), none, none]) (fun i1 aa1 h1 => MI h1 (zU A t aa1) ∧ Fr 158 186 h h1 ∧ aa1 0 = 1 ∧ aa1 1 ≤ 40) (e := 41) (fun aa1 h1 hI1 => ?_) (fun i1 aa1 h1 hi1 hI1 ih1 => ?_) 0 (fun i => if i = 0 then 1 else aU A t 1) _ (by omega) (⟨M0, Fr.sI (by omega) (by omega), rfl, (hW.ru ht).2⟩)
        · show J _ _ _ _ _ [some (pR (some 158)), some (pI (nI t)), some (pI (nI q)), some (pI (nI (aU A t 0))), some (pI (nI (aU A t 1))), some (pI (bsN (kf A t q) 41)), some (pL (mst (kf A t q) 41)), none, some (pI (nI 41)), none, none] _ _ h1
          obtain ⟨hM, hF, b0, b1⟩ := hI1
          have hG : GR h1.2.2 := by rw [hF.2]; exact hG0
          have hW := hW0.zU (t := t) (z := aa1) (by omega) b1
          refine J_iload dX10_keeps_59 rfl ?_
          refine J_bipush (x := nI 40) dX10_keeps_61 (by decide) ?_
          refine J_icmp_gtN dX10_keeps_63 (by decide) (by decide) (fun c0 => ?_) (fun c0 => absurd c0 (by decide))
          refine J_aload_n dX10_keeps_113 rfl ?_
          refine J_getR (r := some 171) dX10_keeps_114 fX10_53 s158 (fun _ => rfl) (g158_25 hG) ?_
          refine J_iload_n dX10_keeps_117 rfl ?_
          refine J_iload_n dX10_keeps_118 rfl ?_
          refine J_iastN dX10_keeps_119 s171 (by decide) (by omega) ?_
          refine J_aload_n dX10_keeps_120 rfl ?_
          refine J_getR (r := some 172) dX10_keeps_121 fX10_56 s158 (fun _ => rfl) ((xRI).trans (g158_26 hG)) ?_
          refine J_iload_n dX10_keeps_124 rfl ?_
          refine J_iload dX10_keeps_125 rfl ?_
          refine J_iastN dX10_keeps_127 s172 (by decide) (by omega) ?_
          refine J_iload dX10_keeps_128 rfl ?_
          exact J_retI dX10_keeps_130 rfl ⟨by rw [bsN_1, show 40 = q + (40 - q) by omega, bst_k (f := kf A t q) (fun k hk => kf_k hk)], by have hM := hM.z0 (k := aU A t 0) hW ht; have hW := hW0.zU (t := t) (z := fun i => if i = 0 then aU A t 0 else aa1 1) (by show aU A t 0 ≤ 2; omega) b1; have hM := (hM.z1 (l := aU A t 1) hW ht).zc (z' := aU A t) rfl rfl; rw [zU_0] at hM; exact hM, hF.tr (Fr.tr (Fr.sI (c := 171) (by omega) (by omega)) (Fr.sI (c := 172) (by omega) (by omega)))⟩
        · show J _ _ _ _ _ [some (pR (some 158)), some (pI (nI t)), some (pI (nI q)), some (pI (nI (aU A t 0))), some (pI (nI (aU A t 1))), some (pI (bsN (kf A t q) i1)), some (pL (mst (kf A t q) i1)), none, some (pI (nI i1)), none, none] _ _ h1
          obtain ⟨hM, hF, b0, b1⟩ := hI1
          have hG : GR h1.2.2 := by rw [hF.2]; exact hG0
          have hW := hW0.zU (t := t) (z := aa1) (by omega) b1
          refine J_iload dX10_keeps_59 rfl ?_
          refine J_bipush (x := nI 40) dX10_keeps_61 (by decide) ?_
          refine J_icmp_gtN dX10_keeps_63 (by omega) (by omega) (fun c7 => ?_) (fun c7 => ?_)
          · exact (show False by omega).elim
          · refine J_aload_n dX10_keeps_66 rfl ?_
            refine J_getR (r := some 172) dX10_keeps_67 fX10_56 s158 (fun _ => rfl) (g158_26 hG) ?_
            refine J_iload_n dX10_keeps_70 rfl ?_
            refine J_iload dX10_keeps_71 rfl ?_
            refine J_iastN dX10_keeps_73 s172 (by decide) (by omega) ?_
            refine J_aload_n dX10_keeps_74 rfl ?_
            refine J_iload_n dX10_keeps_75 rfl ?_
            refine J_iload_n dX10_keeps_76 rfl ?_
            have hM := hM.z1 (l := i1) hW ht
            have hF : Fr 158 186 h (sI h1 172 t (nI i1)) := hF.tr (Fr.sI (by omega) (by omega))
            have hW := hW0.zU (t := t) (z := fun i => if i = 0 then aa1 0 else i1) (by show aa1 0 ≤ 2; omega) (by show i1 ≤ 40; omega)
            have bw2 := hW.wn
            have bk2 := hW.wk
            have bt2 := hW.tn
            refine J_cVL (ci := 10) (c := 158) (as := [pI (nI t), pI (nI q)]) (st := []) dX10_keeps_77 lX10_321 okX10_scoreOf vX10_scoreOf s158 (by decide) rfl rfl rfl (Nat.le_of_ble_eq_true rfl) ⟨Nat.le_of_ble_eq_true rfl, Nat.le_of_ble_eq_true rfl⟩ CR.f (c_X10_scoreOf hG (by omega) (hM.tma hW ht) (hM.nm (by decide)) (by omega) hM.k35 (hM.nm (by decide)) (by omega) (x := fun w => aP A 1 w 0) (fun w hw => ⟨hM.x hw, hW.x hw⟩) (u := aV A t) (fun w hw => hM.wm hW ht (by omega)) (by omega)) (fun vg8 g8 eg8 => ?_)
            obtain ⟨rfl, f1⟩ := eg8
            have hG := f1.g hG
            have hM := hM.mq (.of f1)
            have hF := hF.tr (MFr.of f1).fr
            have hM := hM.zc (z' := fun i => if i = 0 then 1 else i1) b0 rfl
            refine J_cvL (y := kf A t q i1) (zU_sOf (z := fun i => if i = 0 then aa1 0 else i1) b0 rfl) ?_
            refine J_lstore (L' := [some (pR (some 158)), some (pI (nI t)), some (pI (nI q)), some (pI (nI (aU A t 0))), some (pI (nI (aU A t 1))), some (pI (bsN (kf A t q) i1)), some (pL (mst (kf A t q) i1)), none, some (pI (nI i1)), some (pL (kf A t q i1)), none]) dX10_keeps_80 (by decide) rfl ?_
            refine J_iload dX10_keeps_82 rfl ?_
            refine J_iconst (x := -1) dX10_keeps_84 (by decide) ?_
            refine J_icmp_eq dX10_keeps_85 (fun k0 => ?_) (fun k0 => ?_)
            · refine J_lload dX10_keeps_99 rfl ?_
              refine J_lstore (L' := [some (pR (some 158)), some (pI (nI t)), some (pI (nI q)), some (pI (nI (aU A t 0))), some (pI (nI (aU A t 1))), some (pI (bsN (kf A t q) i1)), some (pL (kf A t q i1)), none, some (pI (nI i1)), some (pL (kf A t q i1)), none]) dX10_keeps_101 (by decide) rfl ?_
              refine J_iload dX10_keeps_103 rfl ?_
              refine J_istore (L' := [some (pR (some 158)), some (pI (nI t)), some (pI (nI q)), some (pI (nI (aU A t 0))), some (pI (nI (aU A t 1))), some (pI (nI i1)), some (pL (kf A t q i1)), none, some (pI (nI i1)), some (pL (kf A t q i1)), none]) dX10_keeps_105 (by decide) rfl ?_
              refine J_iincN (n := 1) (L' := [some (pR (some 158)), some (pI (nI t)), some (pI (nI q)), some (pI (nI (aU A t 0))), some (pI (nI (aU A t 1))), some (pI (nI i1)), some (pL (kf A t q i1)), none, some (pI (nI (i1 + 1))), some (pL (kf A t q i1)), none]) dX10_keeps_107 rfl (by decide) rfl ?_
              refine J_goto dX10_keeps_110 ?_
              refine J_drop (L' := [some (pR (some 158)), some (pI (nI t)), some (pI (nI q)), some (pI (nI (aU A t 0))), some (pI (nI (aU A t 1))), some (pI (nI i1)), some (pL (kf A t q i1)), none, some (pI (nI (i1 + 1))), none, none]) 9 rfl ?_
              have K := ih1 (fun i => if i = 0 then 1 else i1) _ ⟨hM, hF, rfl, by show i1 ≤ 40; omega⟩
              rw [bsN_take (Or.inl ((bsN_m1 (by omega)).mp k0)), mst_take (Or.inl ((bsN_m1 (by omega)).mp k0))] at K
              exact K
            · refine J_lload dX10_keeps_88 rfl ?_
              refine J_lload dX10_keeps_90 rfl ?_
              refine J_lcmp dX10_keeps_92 ?_
              refine J_lif_gt dX10_keeps_93 (fun k1 => ?_) (fun k1 => ?_)
              · refine J_lload dX10_keeps_99 rfl ?_
                refine J_lstore (L' := [some (pR (some 158)), some (pI (nI t)), some (pI (nI q)), some (pI (nI (aU A t 0))), some (pI (nI (aU A t 1))), some (pI (bsN (kf A t q) i1)), some (pL (kf A t q i1)), none, some (pI (nI i1)), some (pL (kf A t q i1)), none]) dX10_keeps_101 (by decide) rfl ?_
                refine J_iload dX10_keeps_103 rfl ?_
                refine J_istore (L' := [some (pR (some 158)), some (pI (nI t)), some (pI (nI q)), some (pI (nI (aU A t 0))), some (pI (nI (aU A t 1))), some (pI (nI i1)), some (pL (kf A t q i1)), none, some (pI (nI i1)), some (pL (kf A t q i1)), none]) dX10_keeps_105 (by decide) rfl ?_
                refine J_iincN (n := 1) (L' := [some (pR (some 158)), some (pI (nI t)), some (pI (nI q)), some (pI (nI (aU A t 0))), some (pI (nI (aU A t 1))), some (pI (nI i1)), some (pL (kf A t q i1)), none, some (pI (nI (i1 + 1))), some (pL (kf A t q i1)), none]) dX10_keeps_107 rfl (by decide) rfl ?_
                refine J_goto dX10_keeps_110 ?_
                refine J_drop (L' := [some (pR (some 158)), some (pI (nI t)), some (pI (nI q)), some (pI (nI (aU A t 0))), some (pI (nI (aU A t 1))), some (pI (nI i1)), some (pL (kf A t q i1)), none, some (pI (nI (i1 + 1))), none, none]) 9 rfl ?_
                have K := ih1 (fun i => if i = 0 then 1 else i1) _ ⟨hM, hF, rfl, by show i1 ≤ 40; omega⟩
                rw [bsN_take (Or.inr k1), mst_take (Or.inr k1)] at K
                exact K
              · refine J_goto dX10_keeps_96 ?_
                refine J_iincN (n := 1) (L' := [some (pR (some 158)), some (pI (nI t)), some (pI (nI q)), some (pI (nI (aU A t 0))), some (pI (nI (aU A t 1))), some (pI (bsN (kf A t q) i1)), some (pL (mst (kf A t q) i1)), none, some (pI (nI (i1 + 1))), some (pL (kf A t q i1)), none]) dX10_keeps_107 rfl (by decide) rfl ?_
                refine J_goto dX10_keeps_110 ?_
                refine J_drop (L' := [some (pR (some 158)), some (pI (nI t)), some (pI (nI q)), some (pI (nI (aU A t 0))), some (pI (nI (aU A t 1))), some (pI (bsN (kf A t q) i1)), some (pL (mst (kf A t q) i1)), none, some (pI (nI (i1 + 1))), none, none]) 9 rfl ?_
                have K := ih1 (fun i => if i = 0 then 1 else i1) _ ⟨hM, hF, rfl, by show i1 ≤ 40; omega⟩
                rw [bsN_keep (fun z => k0 ((bsN_m1 (by omega)).mpr z)) (Int64.not_lt.mpr (Int64.not_lt.mp k1)), mst_keep (fun z => k0 ((bsN_m1 (by omega)).mpr z)) (Int64.not_lt.mpr (Int64.not_lt.mp k1))] at K
                exact K
      · exact (show False by omega).elim
    · exact (show False by omega).elim
theorem c_X10_keeps_no {h : PH} {A : AS} {t q : Int32} (hG : GR h.2.2) (hM : MI h A) (hW : WF A) (hno : ¬ ((inR t (aP A 0 3 0) ∧ inR q 41) ∧ 0 < aP A 0 2 0)) : CtI mX10_keeps h [pR (some 158), pI t, pI q] (fun v h' => v = (if inR t (aP A 0 3 0) ∧ inR q 41 then -4 else -2) ∧ MP h h' A) := by
  have bN := hW.1
  have bk := hW.wk
  have bc := hW.cs
  have bw := hW.wn
  have bt := hW.tn
  have bf := hW.fn
  refine Ct.of (L := [some (pR (some 158)), some (pI t), some (pI q), none, none, none, none, none, none, none, none]) rfl rfl (Nat.le_of_ble_eq_true rfl) rfl ?_
  refine J_aload_n dX10_keeps_0 rfl ?_
  refine J_iload_n dX10_keeps_1 rfl ?_
  refine J_cVI (ci := 10) (c := 158) (as := [pI t]) (st := []) dX10_keeps_2 lX10_243 okX10_isThing vX10_isThing s158 (by decide) rfl rfl rfl (Nat.le_of_ble_eq_true rfl) ⟨Nat.le_of_ble_eq_true rfl, Nat.le_of_ble_eq_true rfl⟩ CR.f (c_X10_isThing hG (hM.nm (by decide)) (by omega)) (fun vq1 gq1 eq1 => ?_)
  obtain ⟨rfl, fq1⟩ := eq1
  rw [fq1]
  refine J_if_eqB dX10_keeps_5 (fun d1 => ?_) (fun d1 => ?_)
  · refine J_bipush (x := (-2)) dX10_keeps_15 (by decide) ?_
    exact J_retI dX10_keeps_17 rfl ⟨(if_neg (fun q => d1 q.1)).symm, hM, Fr.rf⟩
  · refine J_iload_n dX10_keeps_8 rfl ?_
    refine J_cSI (as := [pI q]) (st := []) dX10_keeps_9 lX10_303 okX10_isOrder sX10_isOrder rfl rfl (Nat.le_of_ble_eq_true rfl) ⟨Nat.le_of_ble_eq_true rfl, Nat.le_of_ble_eq_true rfl⟩ CR.f (c_X10_isOrder) (fun vq3 gq3 eq3 => ?_)
    obtain ⟨rfl, fq3⟩ := eq3
    rw [fq3]
    refine J_if_neB dX10_keeps_12 (fun d2 => ?_) (fun d2 => ?_)
    · refine J_aload_n dX10_keeps_18 rfl ?_
      refine J_cVI (ci := 10) (c := 158) (as := []) (st := []) dX10_keeps_19 lX10_234 okX10_hasWinters vX10_hasWinters s158 (by decide) rfl rfl rfl (Nat.le_of_ble_eq_true rfl) ⟨Nat.le_of_ble_eq_true rfl, Nat.le_of_ble_eq_true rfl⟩ CR.f (c_X10_hasWinters hG (hM.nm (by decide)) (by omega)) (fun vq5 gq5 eq5 => ?_)
      obtain ⟨rfl, fq5⟩ := eq5
      rw [fq5]
      refine J_if_neB dX10_keeps_22 (fun d4 => ?_) (fun d4 => ?_)
      · exact absurd ⟨⟨d1, d2⟩, d4⟩ hno
      · refine J_bipush (x := (-4)) dX10_keeps_25 (by decide) ?_
        exact J_retI dX10_keeps_27 rfl ⟨(if_pos ⟨d1, d2⟩).symm, hM, Fr.rf⟩
    · refine J_bipush (x := (-2)) dX10_keeps_15 (by decide) ?_
      exact J_retI dX10_keeps_17 rfl ⟨(if_neg (fun q => d2 q.2)).symm, hM, Fr.rf⟩
theorem c_X10_keeps {h : PH} {A : AS} {t q : Int32} (hG : GR h.2.2) (hM : MI h A) (hW : WF A) : CtI mX10_keeps h [pR (some 158), pI t, pI q] (fun v h' => v = keepsA A t q ∧ MP h h' A) := by
  by_cases hok : (inR t (aP A 0 3 0) ∧ inR q 41) ∧ 0 < aP A 0 2 0
  · obtain ⟨⟨h1, h2⟩, h3⟩ := id hok
    obtain ⟨t, ht, rfl⟩ := inR_of h1
    obtain ⟨q, hq, rfl⟩ := inR_of h2
    have bt := hW.tn
    rw [keepsA, if_pos hok.1, if_neg (by omega), cl, cl, nI_clamp (by omega), nI_clamp (by omega)]
    exact c_X10_keeps_in hG hM hW ht hq h3
  · have e : keepsA A t q = if inR t (aP A 0 3 0) ∧ inR q 41 then -4 else -2 := by
      unfold keepsA
      by_cases z : inR t (aP A 0 3 0) ∧ inR q 41
      · rw [if_pos z, if_pos z, if_pos (Nat.eq_zero_of_not_pos (fun y => hok ⟨z, y⟩))]
      · rw [if_neg z, if_neg z]
    rw [e]
    exact c_X10_keeps_no hG hM hW hok
