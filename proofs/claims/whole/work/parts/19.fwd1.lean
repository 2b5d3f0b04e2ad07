theorem c_X10_sledge {h0 : PH} {n S M : Nat} {d : Nat → Nat} {cm : Int64} (hG0 : GR h0.2.2) (k36 : h0.1 158 36 = nI S) (k37 : h0.1 158 37 = nI M) (hd : ∀ j, j < 64 → h0.2.1 173 j = lN (d j)) (bd : ∀ j, j < 64 → d j < 2 ^ 56) (hz : ∀ j, j < 64 → 0 < d j → j ≤ 40) (hcm : h0.2.1 158 38 = cm) (bS : S < 100) (bM : M ≤ 20) (bn : n < 1000) : CtV mX10_sledge h0 [pR (some 158), pI (nI n)] (fun h' => (∀ j, j < 64 → h'.2.1 173 j = lN (sgO S M d 64 j)) ∧ h'.2.1 158 38 = sgC S M d (tenL n) cm 64 ∧ FG h0 h' ∧ h'.2.1 175 = h0.2.1 175) := by
  have hG := hG0
  refine Ct.of (L := [some (pR (some 158)), some (pI (nI n)), none, none]) rfl rfl (Nat.le_of_ble_eq_true rfl) rfl ?_
  refine J_iconstN (n := 0) dX10_sledge_0 ?_
  refine J_istore_n (L' := [some (pR (some 158)), some (pI (nI n)), some (pI (nI 0)), none]) dX10_sledge_1 (by decide) rfl ?_
  refine J_h (h' := wL h0 174 (fil (fun _ => 0) 0 (h0.2.1 174))) fil_h0L ?_
  refine J_for (L := fun i => [some (pR (some 158)), some (pI (nI n)), some (pI (nI i)), none]) (hf := fun i => wL h0 174 (fil (fun _ => 0) i (h0.2.1 174))) (e := 64) ?_ (fun i hi ih => ?_) 0 (by omega)
  · show J _ _ _ _ _ [some (pR (some 158)), some (pI (nI n)), some (pI (nI 64)), none] _ _ (wL h0 174 (fil (fun _ => 0) 64 (h0.2.1 174)))
    refine J_iload_n dX10_sledge_2 rfl ?_
    refine J_bipush (x := nI 64) dX10_sledge_3 (by decide) ?_
    refine J_icmp_geN dX10_sledge_5 (by decide) (by decide) (fun c0 => ?_) (fun c0 => absurd c0 (by decide))
    refine J_iconstN (n := 0) dX10_sledge_21 ?_
    refine J_istore_n (L' := [some (pR (some 158)), some (pI (nI n)), some (pI (nI 0)), none]) dX10_sledge_22 (by decide) rfl ?_
    refine J_forI (α := Unit) (L := fun i2 aa2 => [some (pR (some 158)), some (pI (nI n)), some (pI (nI i2)), none]) (fun i2 aa2 h2 => (∀ j, j < 64 → h2.2.1 174 j = lN (sgO S M d i2 j)) ∧ h2.2.1 158 38 = sgC S M d (tenL n) cm i2 ∧ (∀ j, j < 64 → h2.2.1 173 j = lN (d j)) ∧ FG h0 h2 ∧ h2.2.1 175 = h0.2.1 175) (e := 64) (fun aa2 h hI2 => ?_) (fun i2 aa2 h hi2 hI2 ih2 => ?_) 0 () _ (by omega) ⟨fun j hj => by rw [rWL_s, fil_in hj]; rfl, hcm, hd, FG.w (by omega), rWL_c (by decide)⟩
    · show J _ _ _ _ _ [some (pR (some 158)), some (pI (nI n)), some (pI (nI 64)), none] _ _ h
      obtain ⟨h1, h2, h3, h4, h5⟩ := hI2
      have hG := h4.g hG0
      have h36 := (h4.2.1 36 (by omega)).trans k36
      have h37 := (h4.2.1 37 (by omega)).trans k37
      refine J_iload_n dX10_sledge_23 rfl ?_
      refine J_bipush (x := nI 64) dX10_sledge_24 (by decide) ?_
      refine J_icmp_geN dX10_sledge_26 (by decide) (by decide) (fun c0 => ?_) (fun c0 => absurd c0 (by decide))
      refine J_iconstN (n := 0) dX10_sledge_130 ?_
      refine J_istore_n (L' := [some (pR (some 158)), some (pI (nI n)), some (pI (nI 0)), none]) dX10_sledge_131 (by decide) rfl ?_
      refine J_h (h' := wL h 173 (fil (h.2.1 174) 0 (h.2.1 173))) fil_h0L ?_
      refine J_for (L := fun i => [some (pR (some 158)), some (pI (nI n)), some (pI (nI i)), none]) (hf := fun i => wL h 173 (fil (h.2.1 174) i (h.2.1 173))) (e := 64) ?_ (fun i hi ih => ?_) 0 (by omega)
      · show J _ _ _ _ _ [some (pR (some 158)), some (pI (nI n)), some (pI (nI 64)), none] _ _ (wL h 173 (fil (h.2.1 174) 64 (h.2.1 173)))
        refine J_iload_n dX10_sledge_132 rfl ?_
        refine J_bipush (x := nI 64) dX10_sledge_133 (by decide) ?_
        refine J_icmp_geN dX10_sledge_135 (by decide) (by decide) (fun c0 => ?_) (fun c0 => absurd c0 (by decide))
        exact J_retV dX10_sledge_156 rfl ⟨fun j hj => by rw [rWL_s, fil_in hj]; exact h1 j hj, (congrFun (rWL_c (by decide)) 38).trans h2, h4.tr (FG.w (by omega)), (rWL_c (by decide)).trans h5⟩
      · show J _ _ _ _ _ [some (pR (some 158)), some (pI (nI n)), some (pI (nI i)), none] _ _ (wL h 173 (fil (h.2.1 174) i (h.2.1 173)))
        refine J_iload_n dX10_sledge_132 rfl ?_
        refine J_bipush (x := nI 64) dX10_sledge_133 (by decide) ?_
        refine J_icmp_geN dX10_sledge_135 (by omega) (by omega) (fun c1 => ?_) (fun c1 => ?_)
        · exact (show False by omega).elim
        · refine J_aload_n dX10_sledge_138 rfl ?_
          refine J_getR (r := some 173) dX10_sledge_139 fX10_59 s158 (fun _ => rfl) ((xRL).trans (g158_32 hG)) ?_
          refine J_iload_n dX10_sledge_142 rfl ?_
          refine J_aload_n dX10_sledge_143 rfl ?_
          refine J_getR (r := some 174) dX10_sledge_144 fX10_62 s158 (fun _ => rfl) ((xRL).trans (g158_33 hG)) ?_
          refine J_iload_n dX10_sledge_147 rfl ?_
          refine J_laldN dX10_sledge_148 s174 (by decide) (by omega) ?_
          refine J_cvL (y := h.2.1 174 i) ((congrFun (rWL_c (by decide)) i)) ?_
          refine J_lastN dX10_sledge_149 s173 (by decide) (by omega) ?_
          refine J_iincN (n := 1) (L' := [some (pR (some 158)), some (pI (nI n)), some (pI (nI (i + 1))), none]) dX10_sledge_150 rfl (by decide) rfl ?_
          refine J_goto dX10_sledge_153 ?_
          refine J_h (h' := wL h 173 (fil (h.2.1 174) (i + 1) (h.2.1 173))) (fil_stL rfl) ?_
          exact ih
    · obtain ⟨h1, h2, h3, h4, h5⟩ := hI2
      have hG := h4.g hG0
      have h36 := (h4.2.1 36 (by omega)).trans k36
      have h37 := (h4.2.1 37 (by omega)).trans k37
      have bi := bd i2 hi2
      have zi := hz i2 hi2
      rcases Nat.eq_zero_or_pos (d i2) with e0 | e0
      · show J _ _ _ _ _ [some (pR (some 158)), some (pI (nI n)), some (pI (nI i2)), none] _ _ h
        refine J_iload_n dX10_sledge_23 rfl ?_
        refine J_bipush (x := nI 64) dX10_sledge_24 (by decide) ?_
        refine J_icmp_geN dX10_sledge_26 (by omega) (by omega) (fun c2 => ?_) (fun c2 => ?_)
        · exact (show False by omega).elim
        · refine J_iload_n dX10_sledge_29 rfl ?_
          refine J_aload_n dX10_sledge_30 rfl ?_
          refine J_getI dX10_sledge_31 fX10_297 s158 (fun _ => rfl) ?_
          refine J_cvI (h36) ?_
          refine J_icmp_gtN dX10_sledge_34 (by omega) (by omega) (fun c3 => ?_) (fun c3 => ?_)
          · refine J_iconstN (n := 0) dX10_sledge_52 ?_
            refine J_istore_n (L' := [some (pR (some 158)), some (pI (nI n)), some (pI (nI i2)), some (pI (nI 0))]) dX10_sledge_53 (by decide) rfl ?_
            refine J_iload_n dX10_sledge_54 rfl ?_
            refine J_if_eq dX10_sledge_55 (fun c0 => ?_) (fun c0 => absurd c0 (by decide))
            refine J_aload_n dX10_sledge_85 rfl ?_
            refine J_getR (r := some 173) dX10_sledge_86 fX10_59 s158 (fun _ => rfl) (g158_32 hG) ?_
            refine J_iload_n dX10_sledge_89 rfl ?_
            refine J_laldN dX10_sledge_90 s173 (by decide) (by omega) ?_
            refine J_cvL (((h3 i2 hi2).trans (congrArg lN e0))) ?_
            refine J_lconst (x := 0) dX10_sledge_91 rfl ?_
            refine J_lcmp dX10_sledge_92 ?_
            refine J_lif_le dX10_sledge_93 (fun c4 => ?_) (fun c4 => ?_)
            · refine J_iincN (n := 1) (L' := [some (pR (some 158)), some (pI (nI n)), some (pI (nI (i2 + 1))), some (pI (nI 0))]) dX10_sledge_124 rfl (by decide) rfl ?_
              refine J_goto dX10_sledge_127 ?_
              refine J_drop (L' := [some (pR (some 158)), some (pI (nI n)), some (pI (nI (i2 + 1))), none]) 3 rfl ?_
              refine ih2 () _ ⟨fun j hj => ?_, ?_, h3, h4, h5⟩
              · rw [h1 j hj]; congr 1; simp [sgO, e0]
              · rw [h2]; simp [sgC, e0, lN_0]
            · exact absurd (Int64.le_refl 0) c4
          · refine J_aload_n dX10_sledge_37 rfl ?_
            refine J_getR (r := some 173) dX10_sledge_38 fX10_59 s158 (fun _ => rfl) (g158_32 hG) ?_
            refine J_iload_n dX10_sledge_41 rfl ?_
            refine J_laldN dX10_sledge_42 s173 (by decide) (by omega) ?_
            refine J_cvL (((h3 i2 hi2).trans (congrArg lN e0))) ?_
            refine J_lconst (x := 0) dX10_sledge_43 rfl ?_
            refine J_lcmp dX10_sledge_44 ?_
            refine J_lif_le dX10_sledge_45 (fun c5 => ?_) (fun c5 => ?_)
            · refine J_iconstN (n := 0) dX10_sledge_52 ?_
              refine J_istore_n (L' := [some (pR (some 158)), some (pI (nI n)), some (pI (nI i2)), some (pI (nI 0))]) dX10_sledge_53 (by decide) rfl ?_
              refine J_iload_n dX10_sledge_54 rfl ?_
              refine J_if_eq dX10_sledge_55 (fun c0 => ?_) (fun c0 => absurd c0 (by decide))
              refine J_aload_n dX10_sledge_85 rfl ?_
              refine J_getR (r := some 173) dX10_sledge_86 fX10_59 s158 (fun _ => rfl) (g158_32 hG) ?_
              refine J_iload_n dX10_sledge_89 rfl ?_
              refine J_laldN dX10_sledge_90 s173 (by decide) (by omega) ?_
              refine J_cvL (((h3 i2 hi2).trans (congrArg lN e0))) ?_
              refine J_lconst (x := 0) dX10_sledge_91 rfl ?_
              refine J_lcmp dX10_sledge_92 ?_
              refine J_lif_le dX10_sledge_93 (fun c6 => ?_) (fun c6 => ?_)
              · refine J_iincN (n := 1) (L' := [some (pR (some 158)), some (pI (nI n)), some (pI (nI (i2 + 1))), some (pI (nI 0))]) dX10_sledge_124 rfl (by decide) rfl ?_
                refine J_goto dX10_sledge_127 ?_
                refine J_drop (L' := [some (pR (some 158)), some (pI (nI n)), some (pI (nI (i2 + 1))), none]) 3 rfl ?_
                refine ih2 () _ ⟨fun j hj => ?_, ?_, h3, h4, h5⟩
                · rw [h1 j hj]; congr 1; simp [sgO, e0]
                · rw [h2]; simp [sgC, e0, lN_0]
              · exact absurd (Int64.le_refl 0) c6
            · exact absurd (Int64.le_refl 0) c5
      · show J _ _ _ _ _ [some (pR (some 158)), some (pI (nI n)), some (pI (nI i2)), none] _ _ h
        refine J_iload_n dX10_sledge_23 rfl ?_
        refine J_bipush (x := nI 64) dX10_sledge_24 (by decide) ?_
        refine J_icmp_geN dX10_sledge_26 (by omega) (by omega) (fun c7 => ?_) (fun c7 => ?_)
        · exact (show False by omega).elim
        · refine J_iload_n dX10_sledge_29 rfl ?_
          refine J_aload_n dX10_sledge_30 rfl ?_
          refine J_getI dX10_sledge_31 fX10_297 s158 (fun _ => rfl) ?_
          refine J_cvI (h36) ?_
          refine J_icmp_gtN dX10_sledge_34 (by omega) (by omega) (fun c8 => ?_) (fun c8 => ?_)
          · refine J_iconstN (n := 0) dX10_sledge_52 ?_
            refine J_istore_n (L' := [some (pR (some 158)), some (pI (nI n)), some (pI (nI i2)), some (pI (nI 0))]) dX10_sledge_53 (by decide) rfl ?_
            refine J_iload_n dX10_sledge_54 rfl ?_
            refine J_if_eq dX10_sledge_55 (fun c0 => ?_) (fun c0 => absurd c0 (by decide))
            refine J_aload_n dX10_sledge_85 rfl ?_
            refine J_getR (r := some 173) dX10_sledge_86 fX10_59 s158 (fun _ => rfl) (g158_32 hG) ?_
            refine J_iload_n dX10_sledge_89 rfl ?_
            refine J_laldN dX10_sledge_90 s173 (by decide) (by omega) ?_
            refine J_cvL ((h3 i2 hi2)) ?_
            refine J_lconst (x := 0) dX10_sledge_91 rfl ?_
            refine J_lcmp dX10_sledge_92 ?_
            refine J_lif_le dX10_sledge_93 (fun c9 => ?_) (fun c9 => ?_)
            · exact absurd c9 (lN_nle e0 (by omega))
            · refine J_aload_n dX10_sledge_96 rfl ?_
              refine J_getR (r := some 174) dX10_sledge_97 fX10_62 s158 (fun _ => rfl) (g158_33 hG) ?_
              refine J_iload_n dX10_sledge_100 rfl ?_
              refine J_if_eq dX10_sledge_101 (fun c0 => ?_) (fun c0 => absurd c0 (by decide))
              refine J_iload_n dX10_sledge_113 rfl ?_
              refine J_dup2 dX10_sledge_114 rfl rfl ?_
              refine J_laldN dX10_sledge_115 s174 (by decide) (by omega) ?_
              refine J_cvL ((h1 _ (by omega))) ?_
              refine J_aload_n dX10_sledge_116 rfl ?_
              refine J_getR (r := some 173) dX10_sledge_117 fX10_59 s158 (fun _ => rfl) (g158_32 hG) ?_
              refine J_iload_n dX10_sledge_120 rfl ?_
              refine J_laldN dX10_sledge_121 s173 (by decide) (by omega) ?_
              refine J_cvL ((h3 i2 hi2)) ?_
              refine J_ladd dX10_sledge_122 ?_
              refine J_lastN dX10_sledge_123 s174 (by decide) (by omega) ?_
              refine J_iincN (n := 1) (L' := [some (pR (some 158)), some (pI (nI n)), some (pI (nI (i2 + 1))), some (pI (nI 0))]) dX10_sledge_124 rfl (by decide) rfl ?_
              refine J_goto dX10_sledge_127 ?_
              refine J_drop (L' := [some (pR (some 158)), some (pI (nI n)), some (pI (nI (i2 + 1))), none]) 3 rfl ?_
              refine ih2 () _ ⟨fun j hj => ?_, ?_, fun j hj => ?_, h4.tr (FG.w (by omega)), (rWL_c (by decide)).trans h5⟩
              · by_cases q : j = i2
                · subst q; rw [rL_s, lN_add]; congr 1; simp [sgO]; grind
                · rw [rL_k q]; exact (h1 j hj).trans (by congr 1; simp [sgO]; grind)
              · rw [rL_c (by decide)]; rw [h2]; simp only [sgC]; rw [if_neg (by omega)]; simp
              · rw [rL_c (by decide)]; exact h3 j hj
          · refine J_aload_n dX10_sledge_37 rfl ?_
            refine J_getR (r := some 173) dX10_sledge_38 fX10_59 s158 (fun _ => rfl) (g158_32 hG) ?_
            refine J_iload_n dX10_sledge_41 rfl ?_
            refine J_laldN dX10_sledge_42 s173 (by decide) (by omega) ?_
            refine J_cvL ((h3 i2 hi2)) ?_
            refine J_lconst (x := 0) dX10_sledge_43 rfl ?_
            refine J_lcmp dX10_sledge_44 ?_
            refine J_lif_le dX10_sledge_45 (fun c10 => ?_) (fun c10 => ?_)
            · exact absurd c10 (lN_nle e0 (by omega))
            · refine J_iconstN (n := 1) dX10_sledge_48 ?_
              refine J_goto dX10_sledge_49 ?_
              refine J_istore_n (L' := [some (pR (some 158)), some (pI (nI n)), some (pI (nI i2)), some (pI (nI 1))]) dX10_sledge_53 (by decide) rfl ?_
              refine J_iload_n dX10_sledge_54 rfl ?_
              refine J_if_eq dX10_sledge_55 (fun c0 => absurd c0 (by decide)) (fun c0 => ?_)
              refine J_aload_n dX10_sledge_58 rfl ?_
              refine J_dup dX10_sledge_59 rfl ?_
              refine J_getL dX10_sledge_60 fX10_283 s158 (fun _ => rfl) ?_
              refine J_cvL (h2) ?_
              refine J_aload_n dX10_sledge_63 rfl ?_
              refine J_getR (r := some 173) dX10_sledge_64 fX10_59 s158 (fun _ => rfl) (g158_32 hG) ?_
              refine J_iload_n dX10_sledge_67 rfl ?_
              refine J_laldN dX10_sledge_68 s173 (by decide) (by omega) ?_
              refine J_cvL ((h3 i2 hi2)) ?_
              refine J_aload_n dX10_sledge_69 rfl ?_
              refine J_iload_n dX10_sledge_70 rfl ?_
              refine J_cVL (ci := 10) (c := 158) (as := [pI (nI n)]) (st := [pL (lN (d i2)), pL (sgC S M d (tenL n) cm i2), pR (some 158)]) dX10_sledge_71 lX10_290 okX10_tens vX10_tens s158 (by decide) rfl rfl rfl (Nat.le_of_ble_eq_true rfl) ⟨Nat.le_of_ble_eq_true rfl, Nat.le_of_ble_eq_true rfl⟩ CR.f (c_X10_tens bn) (fun vq11 gq11 eq11 => ?_)
              obtain ⟨rfl, fq11⟩ := eq11
              rw [fq11]
              refine J_lmul dX10_sledge_74 ?_
              refine J_aload_n dX10_sledge_75 rfl ?_
              refine J_getI dX10_sledge_76 fX10_300 s158 (fun _ => rfl) ?_
              refine J_cvI (h37) ?_
              refine J_i2lN dX10_sledge_79 (by omega) ?_
              refine J_lmul dX10_sledge_80 ?_
              refine J_ladd dX10_sledge_81 ?_
              refine J_putL dX10_sledge_82 fX10_283 s158 rfl rfl ?_
              refine J_aload_n dX10_sledge_85 rfl ?_
              refine J_getR (r := some 173) dX10_sledge_86 fX10_59 s158 (fun _ => rfl) ((xRL).trans (g158_32 hG)) ?_
              refine J_iload_n dX10_sledge_89 rfl ?_
              refine J_laldN dX10_sledge_90 s173 (by decide) (by omega) ?_
              refine J_cvL ((rL_c (by decide)).trans ((h3 i2 hi2))) ?_
              refine J_lconst (x := 0) dX10_sledge_91 rfl ?_
              refine J_lcmp dX10_sledge_92 ?_
              refine J_lif_le dX10_sledge_93 (fun c12 => ?_) (fun c12 => ?_)
              · exact absurd c12 (lN_nle e0 (by omega))
              · refine J_aload_n dX10_sledge_96 rfl ?_
                refine J_getR (r := some 174) dX10_sledge_97 fX10_62 s158 (fun _ => rfl) ((xRL).trans (g158_33 hG)) ?_
                refine J_iload_n dX10_sledge_100 rfl ?_
                refine J_if_eq dX10_sledge_101 (fun c0 => absurd c0 (by decide)) (fun c0 => ?_)
                refine J_iload_n dX10_sledge_104 rfl ?_
                refine J_aload_n dX10_sledge_105 rfl ?_
                refine J_getI dX10_sledge_106 fX10_300 s158 (fun _ => rfl) ?_
                refine J_cvI ((xIL).trans (h37)) ?_
                refine J_iaddN dX10_sledge_109 ?_
                refine J_goto dX10_sledge_110 ?_
                refine J_dup2 dX10_sledge_114 rfl rfl ?_
                refine J_laldN dX10_sledge_115 s174 (by decide) (by omega) ?_
                refine J_cvL ((rL_c (by decide)).trans ((h1 _ (by omega)))) ?_
                refine J_aload_n dX10_sledge_116 rfl ?_
                refine J_getR (r := some 173) dX10_sledge_117 fX10_59 s158 (fun _ => rfl) ((xRL).trans (g158_32 hG)) ?_
                refine J_iload_n dX10_sledge_120 rfl ?_
                refine J_laldN dX10_sledge_121 s173 (by decide) (by omega) ?_
                refine J_cvL ((rL_c (by decide)).trans ((h3 i2 hi2))) ?_
                refine J_ladd dX10_sledge_122 ?_
                refine J_lastN dX10_sledge_123 s174 (by decide) (by omega) ?_
                refine J_iincN (n := 1) (L' := [some (pR (some 158)), some (pI (nI n)), some (pI (nI (i2 + 1))), some (pI (nI 1))]) dX10_sledge_124 rfl (by decide) rfl ?_
                refine J_goto dX10_sledge_127 ?_
                refine J_drop (L' := [some (pR (some 158)), some (pI (nI n)), some (pI (nI (i2 + 1))), none]) 3 rfl ?_
                refine ih2 () _ ⟨fun j hj => ?_, ?_, fun j hj => ?_, (h4.tr FG.cm).tr (FG.w (by omega)), (rWL_c (by decide)).trans ((rWL_c (by decide)).trans h5)⟩
                · by_cases q : j = i2 + M
                  · subst q; rw [rL_s, lN_add]; congr 1; simp [sgO]; grind
                  · rw [rL_k q]; rw [rL_c (by decide)]; exact (h1 j hj).trans (by congr 1; simp [sgO]; grind)
                · rw [rL_c (by decide)]; rw [rL_s]; simp only [sgC]; rw [if_pos (by omega)]
                · rw [rL_c (by decide)]; rw [rL_c (by decide)]; exact h3 j hj
  · show J _ _ _ _ _ [some (pR (some 158)), some (pI (nI n)), some (pI (nI i)), none] _ _ (wL h0 174 (fil (fun _ => 0) i (h0.2.1 174)))
    refine J_iload_n dX10_sledge_2 rfl ?_
    refine J_bipush (x := nI 64) dX10_sledge_3 (by decide) ?_
    refine J_icmp_geN dX10_sledge_5 (by omega) (by omega) (fun c13 => ?_) (fun c13 => ?_)
    · exact (show False by omega).elim
    · refine J_aload_n dX10_sledge_8 rfl ?_
      refine J_getR (r := some 174) dX10_sledge_9 fX10_62 s158 (fun _ => rfl) ((xRL).trans (g158_33 hG)) ?_
      refine J_iload_n dX10_sledge_12 rfl ?_
      refine J_lconst (x := 0) dX10_sledge_13 rfl ?_
      refine J_lastN dX10_sledge_14 s174 (by decide) (by omega) ?_
      refine J_iincN (n := 1) (L' := [some (pR (some 158)), some (pI (nI n)), some (pI (nI (i + 1))), none]) dX10_sledge_15 rfl (by decide) rfl ?_
      refine J_goto dX10_sledge_18 ?_
      refine J_h (h' := wL h0 174 (fil (fun _ => 0) (i + 1) (h0.2.1 174))) (fil_stL rfl) ?_
      exact ih
