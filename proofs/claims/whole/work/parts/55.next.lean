/-! ===== the next case ===== -/
theorem nxR_1 {P : PD} {t : Nat} {v : Int64} : nxR P (t + 1, v) = lN (P 2 t 0) := if_neg (Nat.succ_ne_zero t)
theorem hlp_m1 {n : Nat} (h : n < 2 ^ 31) : hlp n = -1 ↔ n = 0 := by
  cases n with
  | zero => exact ⟨fun _ => rfl, fun _ => rfl⟩
  | succ k => exact ⟨fun z => absurd z (nI_m1 (by omega)), fun z => absurd z (Nat.succ_ne_zero k)⟩
theorem hlp_p {n : Nat} (h : n ≠ 0) : hlp n = nI (n - 1) := by
  cases n with
  | zero => exact absurd rfl h
  | succ k => rfl
theorem c_X9_next_in {h : PH} {p : Nat} {A : AS} (hG : GR h.2.2) (hX : XI h p A) (hW : WF A) (hn : 0 < aP A 0 2 0) (hr : rowOk (aP A) (aT A) (aN A)) : CtI mX9_next h [pR (some 0)] (fun v h' => v = hlp (nxS A (aP A 0 3 0)).1 ∧ XP h h' p (eA A)) := by
  have bN := hW.1
  have bk := hW.wk
  have bc := hW.cs
  have bw := hW.wn
  have bt := hW.tn
  have bf := hW.fn
  have hrT := hr.1
  refine Ct.of (L := [some (pR (some 0)), none, none, none, none, none, none, none, none, none, none, none]) rfl rfl (Nat.le_of_ble_eq_true rfl) rfl ?_
  refine J_aload_n dX9_next_0 rfl ?_
  refine J_cVI (ci := 9) (c := 0) (as := []) (st := []) dX9_next_1 lX9_74 okX9_emptyTape vX9_emptyTape s0 (by decide) rfl rfl rfl (Nat.le_of_ble_eq_true rfl) ⟨Nat.le_of_ble_eq_true rfl, Nat.le_of_ble_eq_true rfl⟩ CR.f (c_X9_emptyTape hX.2.1.2) (fun v0 g0 e0 => ?_)
  obtain ⟨rfl, e0⟩ := e0
  have hX : XI g0 p (eA A) := by rw [e0]; exact hX.emp hW
  have hG : GR g0.2.2 := by rw [e0]; exact hG
  have hF : Fr 0 157 h g0 := by rw [e0]; exact Fr.sI (by decide) (by decide)
  have hW0 := hW
  have hW : WF (eA A) := hW.emp
  have hcu := hX.cu
  refine J_istore_n (L' := [some (pR (some 0)), some (pI (nI (aN A))), none, none, none, none, none, none, none, none, none, none]) dX9_next_4 (by decide) rfl ?_
  refine J_aload_n dX9_next_5 rfl ?_
  refine J_getR (r := some p) dX9_next_6 fX9_20 s0 (fun _ => rfl) (hX.cu) ?_
  refine J_getI dX9_next_9 fX9_110 hX.po.s (fun _ => rfl) ?_
  refine J_cvI ((show _ = nI (aP A 0 2 0) from hX.wn)) ?_
  refine J_if_neN dX9_next_12 (by omega) (fun c1 => ?_) (fun c1 => ?_)
  · refine J_aload_n dX9_next_18 rfl ?_
    refine J_iload_n dX9_next_19 rfl ?_
    refine J_cVI (ci := 9) (c := 0) (as := [pI (nI (aN A))]) (st := []) dX9_next_20 lX9_262 okX9_isOrderRow vX9_isOrderRow s0 (by decide) rfl rfl rfl (Nat.le_of_ble_eq_true rfl) ⟨Nat.le_of_ble_eq_true rfl, Nat.le_of_ble_eq_true rfl⟩ CR.f (c_X9_isOrderRow (A := eA A) hG hX hW (by omega)) (fun vq2 gq2 eq2 => ?_)
    obtain ⟨rfl, fq2⟩ := eq2
    rw [fq2]
    refine J_cvI (y := bI (rowOk (aP A) (aT A) (aN A))) rfl ?_
    refine J_if_neB dX9_next_23 (fun c3 => ?_) (fun c3 => ?_)
    · refine J_iconst (x := -1) dX9_next_28 (by decide) ?_
      refine J_istore_n (L' := [some (pR (some 0)), some (pI (nI (aN A))), some (pI ((-1))), none, none, none, none, none, none, none, none, none]) dX9_next_29 (by decide) rfl ?_
      refine J_lconst (x := 0) dX9_next_30 rfl ?_
      refine J_lstore_n (L' := [some (pR (some 0)), some (pI (nI (aN A))), some (pI ((-1))), some (pL 0), none, none, none, none, none, none, none, none]) dX9_next_31 (by decide) rfl ?_
      refine J_lconst (x := 1) dX9_next_32 rfl ?_
      refine J_lstore (L' := [some (pR (some 0)), some (pI (nI (aN A))), some (pI ((-1))), some (pL 0), none, some (pL 1), none, none, none, none, none, none]) dX9_next_33 (by decide) rfl ?_
      refine J_iconstN (n := 0) dX9_next_35 ?_
      refine J_istore (L' := [some (pR (some 0)), some (pI (nI (aN A))), some (pI ((-1))), some (pL 0), none, some (pL 1), none, some (pI (nI 0)), none, none, none, none]) dX9_next_36 (by decide) rfl ?_
      refine J_L (L' := [some (pR (some 0)), some (pI (nI (aN A))), some (pI (hlp (nxS A 0).1)), some (pL ((nxS A 0).2)), none, some (pL (nxR (aP A) (nxS A 0))), none, some (pI (nI 0)), none, none, none, none]) rfl ?_
      have hX0 := hX
      have hG0 := hG
      have hF0 := hF
      refine J_forI (α := Unit) (L := fun i1 aa1 => [some (pR (some 0)), some (pI (nI (aN A))), some (pI (hlp (nxS A i1).1)), some (pL ((nxS A i1).2)), none, some (pL (nxR (aP A) (nxS A i1))), none, some (pI (nI i1)), none, none, none, none]) (fun i1 aa1 h1 => XFr g0 h1) (e := aN A) (fun aa1 h1 hI1 => ?_) (fun i1 aa1 h1 hi1 hI1 ih1 => ?_) 0 (()) _ (by omega) (XFr.rf)
      · show J _ _ _ _ _ [some (pR (some 0)), some (pI (nI (aN A))), some (pI (hlp (nxS A (aN A)).1)), some (pL ((nxS A (aN A)).2)), none, some (pL (nxR (aP A) (nxS A (aN A)))), none, some (pI (nI (aN A))), none, none, none, none] _ _ h1
        have hX := hX0.xf hW hI1
        have hG := hI1.g hG0
        have hF := hF0.tr hI1.fr
        have hQ := hI1
        have hcu := hX.cu
        refine J_iload dX9_next_38 rfl ?_
        refine J_iload_n dX9_next_40 rfl ?_
        refine J_icmp_geN dX9_next_41 (by omega) (by omega) (fun c4 => ?_) (fun c4 => ?_)
        · refine J_iload_n dX9_next_161 rfl ?_
          exact J_retI dX9_next_162 rfl ⟨by rw [hrT], hX, hF⟩
        · exact (show False by omega).elim
      · show J _ _ _ _ _ [some (pR (some 0)), some (pI (nI (aN A))), some (pI (hlp (nxS A i1).1)), some (pL ((nxS A i1).2)), none, some (pL (nxR (aP A) (nxS A i1))), none, some (pI (nI i1)), none, none, none, none] _ _ h1
        have hX := hX0.xf hW hI1
        have hG := hI1.g hG0
        have hF := hF0.tr hI1.fr
        have hQ := hI1
        have hcu := hX.cu
        have hi1 : i1 < aP A 0 3 0 := by omega
        have hq := rq_eq (hr.2 i1 (by omega))
        have btr := (hW0.t hi1).1
        refine J_iload dX9_next_38 rfl ?_
        refine J_iload_n dX9_next_40 rfl ?_
        refine J_icmp_geN dX9_next_41 (by omega) (by omega) (fun c5 => ?_) (fun c5 => ?_)
        · exact (show False by omega).elim
        · refine J_aload_n dX9_next_44 rfl ?_
          refine J_getR (r := some p) dX9_next_45 fX9_20 s0 (fun _ => rfl) (hX.cu) ?_
          refine J_getR (r := some (p + 7)) dX9_next_48 fX9_133 hX.po.s (fun _ => rfl) (hX.po.e10 hG) ?_
          refine J_iload dX9_next_51 rfl ?_
          refine J_aald4N (r := some (p + 9 + 7 * i1)) dX9_next_53 hX.po.s7 (by decide) (by omega) (hX.po.eth hG (by omega)) ?_
          refine J_astore (L' := [some (pR (some 0)), some (pI (nI (aN A))), some (pI (hlp (nxS A i1).1)), some (pL ((nxS A i1).2)), none, some (pL (nxR (aP A) (nxS A i1))), none, some (pI (nI i1)), some (pR (some (p + 9 + 7 * i1))), none, none, none]) dX9_next_54 (by decide) rfl ?_
          refine J_aload_n dX9_next_56 rfl ?_
          refine J_getR (r := some 1) dX9_next_57 fX9_9 s0 (fun _ => rfl) (g0_0 hG) ?_
          refine J_iload dX9_next_60 rfl ?_
          refine J_baldN dX9_next_62 s1 (by decide) (by omega) ?_
          refine J_cvI ((show _ = aT A i1 from hX.2.1.1 i1 (by omega))) ?_
          refine J_bipush (x := nI 48) dX9_next_63 (by decide) ?_
          refine J_isub dX9_next_65 ?_
          refine J_cvI (y := nI (rq (aT A) i1)) hq.1 ?_
          refine J_istore (L' := [some (pR (some 0)), some (pI (nI (aN A))), some (pI (hlp (nxS A i1).1)), some (pL ((nxS A i1).2)), none, some (pL (nxR (aP A) (nxS A i1))), none, some (pI (nI i1)), some (pR (some (p + 9 + 7 * i1))), some (pI (nI (rq (aT A) i1))), none, none]) dX9_next_66 (by decide) rfl ?_
          refine J_iload dX9_next_68 rfl ?_
          refine J_bipush (x := nI 40) dX9_next_70 (by decide) ?_
          refine J_icmp_geN dX9_next_72 (by omega) (by omega) (fun d1 => ?_) (fun d1 => ?_)
          · refine J_iincN (n := 1) (L' := [some (pR (some 0)), some (pI (nI (aN A))), some (pI (hlp (nxS A i1).1)), some (pL ((nxS A i1).2)), none, some (pL (nxR (aP A) (nxS A i1))), none, some (pI (nI (i1 + 1))), some (pR (some (p + 9 + 7 * i1))), some (pI (nI (rq (aT A) i1))), none, none]) dX9_next_155 rfl (by decide) rfl ?_
            refine J_goto dX9_next_158 ?_
            refine J_drop (L' := [some (pR (some 0)), some (pI (nI (aN A))), some (pI (hlp (nxS A i1).1)), some (pL ((nxS A i1).2)), none, some (pL (nxR (aP A) (nxS A i1))), none, some (pI (nI (i1 + 1))), none, some (pI (nI (rq (aT A) i1))), none, none]) 8 rfl ?_
            refine J_drop (L' := [some (pR (some 0)), some (pI (nI (aN A))), some (pI (hlp (nxS A i1).1)), some (pL ((nxS A i1).2)), none, some (pL (nxR (aP A) (nxS A i1))), none, some (pI (nI (i1 + 1))), none, none, none, none]) 9 rfl ?_
            refine J_drop (L' := [some (pR (some 0)), some (pI (nI (aN A))), some (pI (hlp (nxS A i1).1)), some (pL ((nxS A i1).2)), none, some (pL (nxR (aP A) (nxS A i1))), none, some (pI (nI (i1 + 1))), none, none, none, none]) 10 rfl ?_
            have K := ih1 () _ hQ
            rw [nxS_0 (fun z => absurd z.1 (by omega))] at K
            exact K
          · refine J_aload_n dX9_next_75 rfl ?_
            refine J_getR (r := some 92) dX9_next_76 fX9_37 s0 (fun _ => rfl) (g0_5 hG) ?_
            refine J_aload_n dX9_next_79 rfl ?_
            refine J_getR (r := some p) dX9_next_80 fX9_20 s0 (fun _ => rfl) (hX.cu) ?_
            refine J_aload dX9_next_83 rfl ?_
            refine J_aload_n dX9_next_85 rfl ?_
            refine J_getR (r := some p) dX9_next_86 fX9_20 s0 (fun _ => rfl) (hX.cu) ?_
            refine J_getR (r := some (p + 1)) dX9_next_89 fX9_127 hX.po.s (fun _ => rfl) (hX.po.e8 hG) ?_
            refine J_iload dX9_next_92 rfl ?_
            refine J_iconstN (n := 1) dX9_next_94 ?_
            refine J_iaddN dX9_next_95 ?_
            refine J_cVV (ci := 2) (c := 92) (as := [pR (some p), pR (some (p + 9 + 7 * i1)), pR (some (p + 1)), pI (nI (rq (aT A) i1 + 1))]) (st := []) dX9_next_96 lX9_228 okX2_scoreRow vX2_scoreRow s92 (by decide) rfl rfl rfl (Nat.le_of_ble_eq_true rfl) ⟨Nat.le_of_ble_eq_true rfl, Nat.le_of_ble_eq_true rfl⟩ CR.f (c_X2_scoreRow (n := aP A 0 2 0) (k := aP A 0 0 0) hG hX.po (hX.th hW hi1) (hX.ta hW hi1) hX.wn (by omega) hX.wk (by omega) ⟨hX.po.s1, by have := hX.po.b; omega⟩ (x := aX A) (fun w hw => hX.x hw) (u := aV A i1) (fun w hw => hX.wa hW hi1 (by omega)) (by omega)) (fun g7 eg7 => ?_)
            obtain ⟨z1, f2⟩ := eg7
            have qg7 : XFr _ _ := .of f2 (by decide) (by decide)
            have hG := qg7.g hG
            have hX := hX.xf hW qg7
            have hF := hF.tr qg7.fr
            have hQ := hQ.tr qg7
            refine J_aload_n dX9_next_99 rfl ?_
            refine J_getR (r := some 92) dX9_next_100 fX9_37 s0 (fun _ => rfl) (g0_5 hG) ?_
            refine J_getR (r := some 94) dX9_next_103 fX9_215 s92 (fun _ => rfl) (g92_1 hG) ?_
            refine J_iload dX9_next_106 rfl ?_
            refine J_iconstN (n := 1) dX9_next_108 ?_
            refine J_iaddN dX9_next_109 ?_
            refine J_laldN dX9_next_110 s94 (by decide) (by omega) ?_
            refine J_cvL ((show _ = sOf A i1 (rq (aT A) i1 + 1) from (z1 (rq (aT A) i1 + 1) (by omega)).trans scR_sOf)) ?_
            refine J_aload_n dX9_next_111 rfl ?_
            refine J_getR (r := some 92) dX9_next_112 fX9_37 s0 (fun _ => rfl) (g0_5 hG) ?_
            refine J_getR (r := some 94) dX9_next_115 fX9_215 s92 (fun _ => rfl) (g92_1 hG) ?_
            refine J_iload dX9_next_118 rfl ?_
            refine J_laldN dX9_next_120 s94 (by decide) (by omega) ?_
            refine J_cvL ((show _ = sOf A i1 (rq (aT A) i1) from (z1 (rq (aT A) i1) (by omega)).trans scR_sOf)) ?_
            refine J_lsub dX9_next_121 ?_
            refine J_cvL (y := nxF A i1) rfl ?_
            refine J_lstore (L' := [some (pR (some 0)), some (pI (nI (aN A))), some (pI (hlp (nxS A i1).1)), some (pL ((nxS A i1).2)), none, some (pL (nxR (aP A) (nxS A i1))), none, some (pI (nI i1)), some (pR (some (p + 9 + 7 * i1))), some (pI (nI (rq (aT A) i1))), some (pL (nxF A i1)), none]) dX9_next_122 (by decide) rfl ?_
            refine J_lload dX9_next_124 rfl ?_
            refine J_lload dX9_next_126 rfl ?_
            refine J_lmul dX9_next_128 ?_
            refine J_lload_n dX9_next_129 rfl ?_
            refine J_aload dX9_next_130 rfl ?_
            refine J_getI dX9_next_132 fX9_141 (hX.th hW hi1).s (fun _ => rfl) ?_
            refine J_cvI ((show _ = nI (aP A 2 i1 0) from hX.t hi1 (by decide))) ?_
            refine J_i2lN dX9_next_135 (by omega) ?_
            refine J_lmul dX9_next_136 ?_
            refine J_lcmp dX9_next_137 ?_
            refine J_lif_le dX9_next_138 (fun d2 => ?_) (fun d2 => ?_)
            · refine J_iincN (n := 1) (L' := [some (pR (some 0)), some (pI (nI (aN A))), some (pI (hlp (nxS A i1).1)), some (pL ((nxS A i1).2)), none, some (pL (nxR (aP A) (nxS A i1))), none, some (pI (nI (i1 + 1))), some (pR (some (p + 9 + 7 * i1))), some (pI (nI (rq (aT A) i1))), some (pL (nxF A i1)), none]) dX9_next_155 rfl (by decide) rfl ?_
              refine J_goto dX9_next_158 ?_
              refine J_drop (L' := [some (pR (some 0)), some (pI (nI (aN A))), some (pI (hlp (nxS A i1).1)), some (pL ((nxS A i1).2)), none, some (pL (nxR (aP A) (nxS A i1))), none, some (pI (nI (i1 + 1))), none, some (pI (nI (rq (aT A) i1))), some (pL (nxF A i1)), none]) 8 rfl ?_
              refine J_drop (L' := [some (pR (some 0)), some (pI (nI (aN A))), some (pI (hlp (nxS A i1).1)), some (pL ((nxS A i1).2)), none, some (pL (nxR (aP A) (nxS A i1))), none, some (pI (nI (i1 + 1))), none, none, some (pL (nxF A i1)), none]) 9 rfl ?_
              refine J_drop (L' := [some (pR (some 0)), some (pI (nI (aN A))), some (pI (hlp (nxS A i1).1)), some (pL ((nxS A i1).2)), none, some (pL (nxR (aP A) (nxS A i1))), none, some (pI (nI (i1 + 1))), none, none, none, none]) 10 rfl ?_
              have K := ih1 () _ hQ
              rw [nxS_0 (fun z => absurd z.2 (Int64.not_lt.mpr d2))] at K
              exact K
            · refine J_iload dX9_next_141 rfl ?_
              refine J_istore_n (L' := [some (pR (some 0)), some (pI (nI (aN A))), some (pI (nI i1)), some (pL ((nxS A i1).2)), none, some (pL (nxR (aP A) (nxS A i1))), none, some (pI (nI i1)), some (pR (some (p + 9 + 7 * i1))), some (pI (nI (rq (aT A) i1))), some (pL (nxF A i1)), none]) dX9_next_143 (by decide) rfl ?_
              refine J_lload dX9_next_144 rfl ?_
              refine J_lstore_n (L' := [some (pR (some 0)), some (pI (nI (aN A))), some (pI (nI i1)), some (pL (nxF A i1)), none, some (pL (nxR (aP A) (nxS A i1))), none, some (pI (nI i1)), some (pR (some (p + 9 + 7 * i1))), some (pI (nI (rq (aT A) i1))), some (pL (nxF A i1)), none]) dX9_next_146 (by decide) rfl ?_
              refine J_aload dX9_next_147 rfl ?_
              refine J_getI dX9_next_149 fX9_141 (hX.th hW hi1).s (fun _ => rfl) ?_
              refine J_cvI ((show _ = nI (aP A 2 i1 0) from hX.t hi1 (by decide))) ?_
              refine J_i2lN dX9_next_152 (by omega) ?_
              refine J_lstore (L' := [some (pR (some 0)), some (pI (nI (aN A))), some (pI (nI i1)), some (pL (nxF A i1)), none, some (pL (lN (aP A 2 i1 0))), none, some (pI (nI i1)), some (pR (some (p + 9 + 7 * i1))), some (pI (nI (rq (aT A) i1))), some (pL (nxF A i1)), none]) dX9_next_153 (by decide) rfl ?_
              refine J_iincN (n := 1) (L' := [some (pR (some 0)), some (pI (nI (aN A))), some (pI (nI i1)), some (pL (nxF A i1)), none, some (pL (lN (aP A 2 i1 0))), none, some (pI (nI (i1 + 1))), some (pR (some (p + 9 + 7 * i1))), some (pI (nI (rq (aT A) i1))), some (pL (nxF A i1)), none]) dX9_next_155 rfl (by decide) rfl ?_
              refine J_goto dX9_next_158 ?_
              refine J_drop (L' := [some (pR (some 0)), some (pI (nI (aN A))), some (pI (nI i1)), some (pL (nxF A i1)), none, some (pL (lN (aP A 2 i1 0))), none, some (pI (nI (i1 + 1))), none, some (pI (nI (rq (aT A) i1))), some (pL (nxF A i1)), none]) 8 rfl ?_
              refine J_drop (L' := [some (pR (some 0)), some (pI (nI (aN A))), some (pI (nI i1)), some (pL (nxF A i1)), none, some (pL (lN (aP A 2 i1 0))), none, some (pI (nI (i1 + 1))), none, none, some (pL (nxF A i1)), none]) 9 rfl ?_
              refine J_drop (L' := [some (pR (some 0)), some (pI (nI (aN A))), some (pI (nI i1)), some (pL (nxF A i1)), none, some (pL (lN (aP A 2 i1 0))), none, some (pI (nI (i1 + 1))), none, none, none, none]) 10 rfl ?_
              have K := ih1 () _ hQ
              rw [nxS_1 ⟨by omega, Int64.not_le.mp d2⟩, nxR_1] at K
              exact K
    · exact absurd hr c3
  · exact (show False by omega).elim
theorem c_X9_next_no {h : PH} {p : Nat} {A : AS} (hG : GR h.2.2) (hX : XI h p A) (hW : WF A) (hno : aP A 0 2 0 = 0 ∨ ¬ rowOk (aP A) (aT A) (aN A)) : CtI mX9_next h [pR (some 0)] (fun v h' => v = (if aP A 0 2 0 = 0 then -4 else -1) ∧ XP h h' p (eA A)) := by
  have bN := hW.1
  have bk := hW.wk
  have bc := hW.cs
  have bw := hW.wn
  have bt := hW.tn
  have bf := hW.fn
  refine Ct.of (L := [some (pR (some 0)), none, none, none, none, none, none, none, none, none, none, none]) rfl rfl (Nat.le_of_ble_eq_true rfl) rfl ?_
  refine J_aload_n dX9_next_0 rfl ?_
  refine J_cVI (ci := 9) (c := 0) (as := []) (st := []) dX9_next_1 lX9_74 okX9_emptyTape vX9_emptyTape s0 (by decide) rfl rfl rfl (Nat.le_of_ble_eq_true rfl) ⟨Nat.le_of_ble_eq_true rfl, Nat.le_of_ble_eq_true rfl⟩ CR.f (c_X9_emptyTape hX.2.1.2) (fun v0 g0 e0 => ?_)
  obtain ⟨rfl, e0⟩ := e0
  have hX : XI g0 p (eA A) := by rw [e0]; exact hX.emp hW
  have hG : GR g0.2.2 := by rw [e0]; exact hG
  have hF : Fr 0 157 h g0 := by rw [e0]; exact Fr.sI (by decide) (by decide)
  have hW0 := hW
  have hW : WF (eA A) := hW.emp
  have hcu := hX.cu
  refine J_istore_n (L' := [some (pR (some 0)), some (pI (nI (aN A))), none, none, none, none, none, none, none, none, none, none]) dX9_next_4 (by decide) rfl ?_
  refine J_aload_n dX9_next_5 rfl ?_
  refine J_getR (r := some p) dX9_next_6 fX9_20 s0 (fun _ => rfl) (hX.cu) ?_
  refine J_getI dX9_next_9 fX9_110 hX.po.s (fun _ => rfl) ?_
  refine J_cvI ((show _ = nI (aP A 0 2 0) from hX.wn)) ?_
  refine J_if_neN dX9_next_12 (by omega) (fun d1 => ?_) (fun d1 => ?_)
  · refine J_aload_n dX9_next_18 rfl ?_
    refine J_iload_n dX9_next_19 rfl ?_
    refine J_cVI (ci := 9) (c := 0) (as := [pI (nI (aN A))]) (st := []) dX9_next_20 lX9_262 okX9_isOrderRow vX9_isOrderRow s0 (by decide) rfl rfl rfl (Nat.le_of_ble_eq_true rfl) ⟨Nat.le_of_ble_eq_true rfl, Nat.le_of_ble_eq_true rfl⟩ CR.f (c_X9_isOrderRow (A := eA A) hG hX hW (by omega)) (fun vq2 gq2 eq2 => ?_)
    obtain ⟨rfl, fq2⟩ := eq2
    rw [fq2]
    refine J_cvI (y := bI (rowOk (aP A) (aT A) (aN A))) rfl ?_
    refine J_if_neB dX9_next_23 (fun d2 => ?_) (fun d2 => ?_)
    · exact absurd d2 (hno.elim (fun y => absurd y (by omega)) id)
    · refine J_iconst (x := -1) dX9_next_26 (by decide) ?_
      exact J_retI dX9_next_27 rfl ⟨(if_neg (by omega)).symm, hX, hF⟩
  · refine J_bipush (x := (-4)) dX9_next_15 (by decide) ?_
    exact J_retI dX9_next_17 rfl ⟨(if_pos (by omega)).symm, hX, hF⟩
theorem c_X9_next {h : PH} {p : Nat} {A : AS} (hG : GR h.2.2) (hX : XI h p A) (hW : WF A) : CtI mX9_next h [pR (some 0)] (fun v h' => v = nextA A ∧ XP h h' p (eA A)) := by
  by_cases hok : 0 < aP A 0 2 0 ∧ rowOk (aP A) (aT A) (aN A)
  · rw [nextA, if_neg (by omega), if_pos hok.2]
    exact c_X9_next_in hG hX hW hok.1 hok.2
  · have e : nextA A = if aP A 0 2 0 = 0 then -4 else -1 := by
      unfold nextA
      by_cases y : aP A 0 2 0 = 0
      · rw [if_pos y, if_pos y]
      · rw [if_neg y, if_neg y, if_neg (fun x => hok ⟨Nat.pos_of_ne_zero y, x⟩)]
    rw [e]
    refine c_X9_next_no hG hX hW ?_
    by_cases y : aP A 0 2 0 = 0
    · exact Or.inl y
    · exact Or.inr (fun x => hok ⟨Nat.pos_of_ne_zero y, x⟩)
theorem c_X10_next_in {h : PH} {A : AS} (hG : GR h.2.2) (hM : MI h A) (hW : WF A) (hn : 0 < aP A 0 2 0) (hr : rowOk (aP A) (aT A) (aN A)) : CtI mX10_next h [pR (some 158)] (fun v h' => v = hlp (nxS A (aP A 0 3 0)).1 ∧ MP h h' (eA A)) := by
  have bN := hW.1
  have bk := hW.wk
  have bc := hW.cs
  have bw := hW.wn
  have bt := hW.tn
  have bf := hW.fn
  have hrT := hr.1
  refine Ct.of (L := [some (pR (some 158)), none, none, none, none, none, none, none]) rfl rfl (Nat.le_of_ble_eq_true rfl) rfl ?_
  refine J_aload_n dX10_next_0 rfl ?_
  refine J_getI dX10_next_1 fX10_110 s158 (fun _ => rfl) ?_
  refine J_cvI (hM.1.2) ?_
  refine J_istore_n (L' := [some (pR (some 158)), some (pI (nI (aN A))), none, none, none, none, none, none]) dX10_next_4 (by decide) rfl ?_
  refine J_aload_n dX10_next_5 rfl ?_
  refine J_iconstN (n := 0) dX10_next_6 ?_
  refine J_putI dX10_next_7 fX10_110 s158 rfl (vp_nar_int _) rfl (fun _ _ => rfl) ?_
  have hM : MI (sI h 158 1 (nI 0)) (eA A) := hM.emp
  have hF : Fr 158 186 h (sI h 158 1 (nI 0)) := Fr.sI (by decide) (by decide)
  generalize hg0 : sI h 158 1 (nI 0) = g0 at hM hF ⊢
  have hG : GR g0.2.2 := by rw [hF.2]; exact hG
  have hW0 := hW
  have hW : WF (eA A) := hW.emp
  refine J_aload_n dX10_next_10 rfl ?_
  refine J_cVI (ci := 10) (c := 158) (as := []) (st := []) dX10_next_11 lX10_234 okX10_hasWinters vX10_hasWinters s158 (by decide) rfl rfl rfl (Nat.le_of_ble_eq_true rfl) ⟨Nat.le_of_ble_eq_true rfl, Nat.le_of_ble_eq_true rfl⟩ CR.f (c_X10_hasWinters (n := aP A 0 2 0) hG (hM.nm (by decide)) (by omega)) (fun vq1 gq1 eq1 => ?_)
  obtain ⟨rfl, fq1⟩ := eq1
  rw [fq1]
  refine J_if_neB dX10_next_14 (fun c2 => ?_) (fun c2 => ?_)
  · refine J_aload_n dX10_next_20 rfl ?_
    refine J_iload_n dX10_next_21 rfl ?_
    refine J_cVI (ci := 10) (c := 158) (as := [pI (nI (aN A))]) (st := []) dX10_next_22 lX10_347 okX10_readList vX10_readList s158 (by decide) rfl rfl rfl (Nat.le_of_ble_eq_true rfl) ⟨Nat.le_of_ble_eq_true rfl, Nat.le_of_ble_eq_true rfl⟩ CR.f (c_X10_readList (A := eA A) hG hM hW (by omega)) (fun v1 g1 e1 => ?_)
    obtain ⟨rfl, f1, zr⟩ := e1
    have hG := f1.g hG
    have hM := hM.mq f1.m179
    have hF := hF.tr f1.m179.fr
    refine J_cvI (y := bI (rowOk (aP A) (aT A) (aN A))) rfl ?_
    refine J_if_neB dX10_next_25 (fun c3 => ?_) (fun c3 => ?_)
    · refine J_iconst (x := -1) dX10_next_30 (by decide) ?_
      refine J_istore_n (L' := [some (pR (some 158)), some (pI (nI (aN A))), some (pI ((-1))), none, none, none, none, none]) dX10_next_31 (by decide) rfl ?_
      refine J_lconst (x := 0) dX10_next_32 rfl ?_
      refine J_lstore_n (L' := [some (pR (some 158)), some (pI (nI (aN A))), some (pI ((-1))), some (pL 0), none, none, none, none]) dX10_next_33 (by decide) rfl ?_
      refine J_iconstN (n := 0) dX10_next_34 ?_
      refine J_istore (L' := [some (pR (some 158)), some (pI (nI (aN A))), some (pI ((-1))), some (pL 0), none, some (pI (nI 0)), none, none]) dX10_next_35 (by decide) rfl ?_
      refine J_L (L' := [some (pR (some 158)), some (pI (nI (aN A))), some (pI (hlp (nxS A 0).1)), some (pL ((nxS A 0).2)), none, some (pI (nI 0)), none, none]) rfl ?_
      have hM0 := hM
      have hG0 := hG
      have hF0 := hF
      refine J_forI (α := Unit) (L := fun i1 aa1 => [some (pR (some 158)), some (pI (nI (aN A))), some (pI (hlp (nxS A i1).1)), some (pL ((nxS A i1).2)), none, some (pI (nI i1)), none, none]) (fun i1 aa1 h1 => FG g1 h1) (e := aN A) (fun aa1 h1 hI1 => ?_) (fun i1 aa1 h1 hi1 hI1 ih1 => ?_) 0 (()) _ (by omega) (FG.rf)
      · show J _ _ _ _ _ [some (pR (some 158)), some (pI (nI (aN A))), some (pI (hlp (nxS A (aN A)).1)), some (pL ((nxS A (aN A)).2)), none, some (pI (nI (aN A))), none, none] _ _ h1
        have hM := hM0.mq (.of hI1)
        have hG := hI1.g hG0
        have hF := hF0.tr (MFr.of hI1).fr
        have hQ := hI1
        refine J_iload dX10_next_37 rfl ?_
        refine J_iload_n dX10_next_39 rfl ?_
        refine J_icmp_geN dX10_next_40 (by omega) (by omega) (fun c4 => ?_) (fun c4 => ?_)
        · refine J_iload_n dX10_next_140 rfl ?_
          exact J_retI dX10_next_141 rfl ⟨by rw [hrT], hM, hF⟩
        · exact (show False by omega).elim
      · show J _ _ _ _ _ [some (pR (some 158)), some (pI (nI (aN A))), some (pI (hlp (nxS A i1).1)), some (pL ((nxS A i1).2)), none, some (pI (nI i1)), none, none] _ _ h1
        have hM := hM0.mq (.of hI1)
        have hG := hI1.g hG0
        have hF := hF0.tr (MFr.of hI1).fr
        have hQ := hI1
        have hi1 : i1 < aP A 0 3 0 := by omega
        have hq := rq_eq (hr.2 i1 (by omega))
        have btr := (hW0.t hi1).1
        have hin := nxS_i hW0 hr i1 (by omega)
        have hil := hin.1
        refine J_iload dX10_next_37 rfl ?_
        refine J_iload_n dX10_next_39 rfl ?_
        refine J_icmp_geN dX10_next_40 (by omega) (by omega) (fun c5 => ?_) (fun c5 => ?_)
        · exact (show False by omega).elim
        · refine J_aload_n dX10_next_43 rfl ?_
          refine J_getR (r := some 179) dX10_next_44 fX10_80 s158 (fun _ => rfl) (g158_43 hG) ?_
          refine J_iload dX10_next_47 rfl ?_
          refine J_ialdN dX10_next_49 s179 (by decide) (by omega) ?_
          refine J_cvI (((hQ.i (by decide) (by decide) (by decide) (by decide)).trans (show _ = nI (rq (aT A) i1) from zr hr i1 (by omega)))) ?_
          refine J_bipush (x := nI 40) dX10_next_50 (by decide) ?_
          refine J_icmp_neN dX10_next_52 (by omega) (by omega) (fun d1 => ?_) (fun d1 => ?_)
          · refine J_aload_n dX10_next_58 rfl ?_
            refine J_iload dX10_next_59 rfl ?_
            refine J_aload_n dX10_next_61 rfl ?_
            refine J_getR (r := some 179) dX10_next_62 fX10_80 s158 (fun _ => rfl) (g158_43 hG) ?_
            refine J_iload dX10_next_65 rfl ?_
            refine J_ialdN dX10_next_67 s179 (by decide) (by omega) ?_
            refine J_cvI (((hQ.i (by decide) (by decide) (by decide) (by decide)).trans (show _ = nI (rq (aT A) i1) from zr hr i1 (by omega)))) ?_
            refine J_iconstN (n := 1) dX10_next_68 ?_
            refine J_iaddN dX10_next_69 ?_
            refine J_cVL (ci := 10) (c := 158) (as := [pI (nI i1), pI (nI (rq (aT A) i1 + 1))]) (st := []) dX10_next_70 lX10_321 okX10_scoreOf vX10_scoreOf s158 (by decide) rfl rfl rfl (Nat.le_of_ble_eq_true rfl) ⟨Nat.le_of_ble_eq_true rfl, Nat.le_of_ble_eq_true rfl⟩ CR.f (c_X10_scoreOf (W := aP A 0 0 0) (n := aP A 0 2 0) (a := aP A 2 i1) (rk := aU A i1 0) (rl := aU A i1 1) hG (by omega) (hM.tma hW hi1) (hM.nm (by decide)) (by omega) hM.k35 (hM.nm (by decide)) (by omega) (x := fun w => aP A 1 w 0) (fun w hw => ⟨hM.x hw, hW.x hw⟩) (u := aV A i1) (fun w hw => hM.wm hW hi1 (by omega)) (by omega)) (fun vg7 g7 eg7 => ?_)
            obtain ⟨rfl, f2⟩ := eg7
            have hG := f2.g hG
            have hM := hM.mq (.of f2)
            have hQ := hQ.tr f2
            refine J_cvL (y := sOf A i1 (rq (aT A) i1 + 1)) rfl ?_
            refine J_aload_n dX10_next_73 rfl ?_
            refine J_iload dX10_next_74 rfl ?_
            refine J_aload_n dX10_next_76 rfl ?_
            refine J_getR (r := some 179) dX10_next_77 fX10_80 s158 (fun _ => rfl) (g158_43 hG) ?_
            refine J_iload dX10_next_80 rfl ?_
            refine J_ialdN dX10_next_82 s179 (by decide) (by omega) ?_
            refine J_cvI (((hQ.i (by decide) (by decide) (by decide) (by decide)).trans (show _ = nI (rq (aT A) i1) from zr hr i1 (by omega)))) ?_
            refine J_cVL (ci := 10) (c := 158) (as := [pI (nI i1), pI (nI (rq (aT A) i1))]) (st := [pL (sOf A i1 (rq (aT A) i1 + 1))]) dX10_next_83 lX10_321 okX10_scoreOf vX10_scoreOf s158 (by decide) rfl rfl rfl (Nat.le_of_ble_eq_true rfl) ⟨Nat.le_of_ble_eq_true rfl, Nat.le_of_ble_eq_true rfl⟩ CR.f (c_X10_scoreOf (W := aP A 0 0 0) (n := aP A 0 2 0) (a := aP A 2 i1) (rk := aU A i1 0) (rl := aU A i1 1) hG (by omega) (hM.tma hW hi1) (hM.nm (by decide)) (by omega) hM.k35 (hM.nm (by decide)) (by omega) (x := fun w => aP A 1 w 0) (fun w hw => ⟨hM.x hw, hW.x hw⟩) (u := aV A i1) (fun w hw => hM.wm hW hi1 (by omega)) (by omega)) (fun vg8 g8 eg8 => ?_)
            obtain ⟨rfl, f2⟩ := eg8
            have hG := f2.g hG
            have hM := hM.mq (.of f2)
            have hQ := hQ.tr f2
            refine J_cvL (y := sOf A i1 (rq (aT A) i1)) rfl ?_
            refine J_lsub dX10_next_86 ?_
            refine J_cvL (y := nxF A i1) rfl ?_
            refine J_lstore (L' := [some (pR (some 158)), some (pI (nI (aN A))), some (pI (hlp (nxS A i1).1)), some (pL ((nxS A i1).2)), none, some (pI (nI i1)), some (pL (nxF A i1)), none]) dX10_next_87 (by decide) rfl ?_
            refine J_lload dX10_next_89 rfl ?_
            refine J_lconst (x := 0) dX10_next_91 rfl ?_
            refine J_lcmp dX10_next_92 ?_
            refine J_lif_le dX10_next_93 (fun d2 => ?_) (fun d2 => ?_)
            · refine J_iincN (n := 1) (L' := [some (pR (some 158)), some (pI (nI (aN A))), some (pI (hlp (nxS A i1).1)), some (pL ((nxS A i1).2)), none, some (pI (nI (i1 + 1))), some (pL (nxF A i1)), none]) dX10_next_134 rfl (by decide) rfl ?_
              refine J_goto dX10_next_137 ?_
              refine J_drop (L' := [some (pR (some 158)), some (pI (nI (aN A))), some (pI (hlp (nxS A i1).1)), some (pL ((nxS A i1).2)), none, some (pI (nI (i1 + 1))), none, none]) 6 rfl ?_
              have K := ih1 () _ hQ
              rw [nxS_0 (fun z => nx_neg hW0 hi1 hq.2 hin d2 z.2)] at K
              exact K
            · refine J_iload_n dX10_next_96 rfl ?_
              refine J_iconst (x := -1) dX10_next_97 (by decide) ?_
              refine J_icmp_eq dX10_next_98 (fun d3 => ?_) (fun d3 => ?_)
              · have hz := (hlp_m1 (by omega)).mp d3
                refine J_iload dX10_next_128 rfl ?_
                refine J_istore_n (L' := [some (pR (some 158)), some (pI (nI (aN A))), some (pI (nI i1)), some (pL ((nxS A i1).2)), none, some (pI (nI i1)), some (pL (nxF A i1)), none]) dX10_next_130 (by decide) rfl ?_
                refine J_lload dX10_next_131 rfl ?_
                refine J_lstore_n (L' := [some (pR (some 158)), some (pI (nI (aN A))), some (pI (nI i1)), some (pL (nxF A i1)), none, some (pI (nI i1)), some (pL (nxF A i1)), none]) dX10_next_133 (by decide) rfl ?_
                refine J_iincN (n := 1) (L' := [some (pR (some 158)), some (pI (nI (aN A))), some (pI (nI i1)), some (pL (nxF A i1)), none, some (pI (nI (i1 + 1))), some (pL (nxF A i1)), none]) dX10_next_134 rfl (by decide) rfl ?_
                refine J_goto dX10_next_137 ?_
                refine J_drop (L' := [some (pR (some 158)), some (pI (nI (aN A))), some (pI (nI i1)), some (pL (nxF A i1)), none, some (pI (nI (i1 + 1))), none, none]) 6 rfl ?_
                have K := ih1 () _ hQ
                rw [nxS_1 ⟨by omega, nx_pos hin hz (Int64.not_le.mp d2)⟩] at K
                exact K
              · have hz : ¬ (nxS A i1).1 = 0 := fun z => d3 ((hlp_m1 (by omega)).mpr z)
                refine J_L (L' := [some (pR (some 158)), some (pI (nI (aN A))), some (pI (nI ((nxS A i1).1 - 1))), some (pL ((nxS A i1).2)), none, some (pI (nI i1)), some (pL (nxF A i1)), none]) (by rw [hlp_p hz]) ?_
                have bzr := (hW0.t (t := (nxS A i1).1 - 1) (by omega)).1
                refine J_lload dX10_next_101 rfl ?_
                refine J_aload_n dX10_next_103 rfl ?_
                refine J_iload_n dX10_next_104 rfl ?_
                refine J_iconstN (n := 0) dX10_next_105 ?_
                refine J_cVI (ci := 10) (c := 158) (as := [pI (nI ((nxS A i1).1 - 1)), pI (nI 0)]) (st := [pL (nxF A i1)]) dX10_next_106 lX10_246 okX10_of vX10_of s158 (by decide) rfl rfl rfl (Nat.le_of_ble_eq_true rfl) ⟨Nat.le_of_ble_eq_true rfl, Nat.le_of_ble_eq_true rfl⟩ CR.f (c_X10_of (t := (nxS A i1).1 - 1) (a := 0) (x := aP A 2 ((nxS A i1).1 - 1) 0) hG (by omega) (by decide) (show _ = nI (aP A 2 ((nxS A i1).1 - 1) 0) from hM.t (t := (nxS A i1).1 - 1) (k := 0) (by show (nxS A i1).1 - 1 < aP A 0 3 0; omega) (by decide))) (fun vq11 gq11 eq11 => ?_)
                obtain ⟨rfl, fq11⟩ := eq11
                rw [fq11]
                refine J_i2lN dX10_next_109 (by omega) ?_
                refine J_lmul dX10_next_110 ?_
                refine J_lload_n dX10_next_111 rfl ?_
                refine J_aload_n dX10_next_112 rfl ?_
                refine J_iload dX10_next_113 rfl ?_
                refine J_iconstN (n := 0) dX10_next_115 ?_
                refine J_cVI (ci := 10) (c := 158) (as := [pI (nI i1), pI (nI 0)]) (st := [pL ((nxS A i1).2), pL ((nxF A i1) * (lN (aP A 2 ((nxS A i1).1 - 1) 0)))]) dX10_next_116 lX10_246 okX10_of vX10_of s158 (by decide) rfl rfl rfl (Nat.le_of_ble_eq_true rfl) ⟨Nat.le_of_ble_eq_true rfl, Nat.le_of_ble_eq_true rfl⟩ CR.f (c_X10_of (t := i1) (a := 0) (x := aP A 2 (i1) 0) hG (by omega) (by decide) (show _ = nI (aP A 2 (i1) 0) from hM.t (t := i1) (k := 0) (by show i1 < aP A 0 3 0; omega) (by decide))) (fun vq12 gq12 eq12 => ?_)
                obtain ⟨rfl, fq12⟩ := eq12
                rw [fq12]
                refine J_i2lN dX10_next_119 (by omega) ?_
                refine J_lmul dX10_next_120 ?_
                refine J_lcmp dX10_next_121 ?_
                refine J_lif_gt dX10_next_122 (fun d4 => ?_) (fun d4 => ?_)
                · refine J_iload dX10_next_128 rfl ?_
                  refine J_istore_n (L' := [some (pR (some 158)), some (pI (nI (aN A))), some (pI (nI i1)), some (pL ((nxS A i1).2)), none, some (pI (nI i1)), some (pL (nxF A i1)), none]) dX10_next_130 (by decide) rfl ?_
                  refine J_lload dX10_next_131 rfl ?_
                  refine J_lstore_n (L' := [some (pR (some 158)), some (pI (nI (aN A))), some (pI (nI i1)), some (pL (nxF A i1)), none, some (pI (nI i1)), some (pL (nxF A i1)), none]) dX10_next_133 (by decide) rfl ?_
                  refine J_iincN (n := 1) (L' := [some (pR (some 158)), some (pI (nI (aN A))), some (pI (nI i1)), some (pL (nxF A i1)), none, some (pI (nI (i1 + 1))), some (pL (nxF A i1)), none]) dX10_next_134 rfl (by decide) rfl ?_
                  refine J_goto dX10_next_137 ?_
                  refine J_drop (L' := [some (pR (some 158)), some (pI (nI (aN A))), some (pI (nI i1)), some (pL (nxF A i1)), none, some (pI (nI (i1 + 1))), none, none]) 6 rfl ?_
                  have K := ih1 () _ hQ
                  rw [nxS_1 ⟨by omega, by unfold nxR; rw [if_neg hz]; exact d4⟩] at K
                  exact K
                · refine J_goto dX10_next_125 ?_
                  refine J_iincN (n := 1) (L' := [some (pR (some 158)), some (pI (nI (aN A))), some (pI (nI ((nxS A i1).1 - 1))), some (pL ((nxS A i1).2)), none, some (pI (nI (i1 + 1))), some (pL (nxF A i1)), none]) dX10_next_134 rfl (by decide) rfl ?_
                  refine J_goto dX10_next_137 ?_
                  refine J_drop (L' := [some (pR (some 158)), some (pI (nI (aN A))), some (pI (nI ((nxS A i1).1 - 1))), some (pL ((nxS A i1).2)), none, some (pI (nI (i1 + 1))), none, none]) 6 rfl ?_
                  refine J_L (L' := [some (pR (some 158)), some (pI (nI (aN A))), some (pI (hlp (nxS A i1).1)), some (pL ((nxS A i1).2)), none, some (pI (nI (i1 + 1))), none, none]) (by rw [hlp_p hz]) ?_
                  have K := ih1 () _ hQ
                  rw [nxS_0 (fun z => d4 (by have y := z.2; unfold nxR at y; rw [if_neg hz] at y; exact y))] at K
                  exact K
          · refine J_goto dX10_next_55 ?_
            refine J_iincN (n := 1) (L' := [some (pR (some 158)), some (pI (nI (aN A))), some (pI (hlp (nxS A i1).1)), some (pL ((nxS A i1).2)), none, some (pI (nI (i1 + 1))), none, none]) dX10_next_134 rfl (by decide) rfl ?_
            refine J_goto dX10_next_137 ?_
            refine J_drop (L' := [some (pR (some 158)), some (pI (nI (aN A))), some (pI (hlp (nxS A i1).1)), some (pL ((nxS A i1).2)), none, some (pI (nI (i1 + 1))), none, none]) 6 rfl ?_
            have K := ih1 () _ hQ
            rw [nxS_0 (fun z => absurd z.1 (by omega))] at K
            exact K
    · exact absurd hr c3
  · exact (show False by omega).elim
theorem c_X10_next_no {h : PH} {A : AS} (hG : GR h.2.2) (hM : MI h A) (hW : WF A) (hno : aP A 0 2 0 = 0 ∨ ¬ rowOk (aP A) (aT A) (aN A)) : CtI mX10_next h [pR (some 158)] (fun v h' => v = (if aP A 0 2 0 = 0 then -4 else -1) ∧ MP h h' (eA A)) := by
  have bN := hW.1
  have bk := hW.wk
  have bc := hW.cs
  have bw := hW.wn
  have bt := hW.tn
  have bf := hW.fn
  refine Ct.of (L := [some (pR (some 158)), none, none, none, none, none, none, none]) rfl rfl (Nat.le_of_ble_eq_true rfl) rfl ?_
  refine J_aload_n dX10_next_0 rfl ?_
  refine J_getI dX10_next_1 fX10_110 s158 (fun _ => rfl) ?_
  refine J_cvI (hM.1.2) ?_
  refine J_istore_n (L' := [some (pR (some 158)), some (pI (nI (aN A))), none, none, none, none, none, none]) dX10_next_4 (by decide) rfl ?_
  refine J_aload_n dX10_next_5 rfl ?_
  refine J_iconstN (n := 0) dX10_next_6 ?_
  refine J_putI dX10_next_7 fX10_110 s158 rfl (vp_nar_int _) rfl (fun _ _ => rfl) ?_
  have hM : MI (sI h 158 1 (nI 0)) (eA A) := hM.emp
  have hF : Fr 158 186 h (sI h 158 1 (nI 0)) := Fr.sI (by decide) (by decide)
  generalize hg0 : sI h 158 1 (nI 0) = g0 at hM hF ⊢
  have hG : GR g0.2.2 := by rw [hF.2]; exact hG
  have hW0 := hW
  have hW : WF (eA A) := hW.emp
  refine J_aload_n dX10_next_10 rfl ?_
  refine J_cVI (ci := 10) (c := 158) (as := []) (st := []) dX10_next_11 lX10_234 okX10_hasWinters vX10_hasWinters s158 (by decide) rfl rfl rfl (Nat.le_of_ble_eq_true rfl) ⟨Nat.le_of_ble_eq_true rfl, Nat.le_of_ble_eq_true rfl⟩ CR.f (c_X10_hasWinters (n := aP A 0 2 0) hG (hM.nm (by decide)) (by omega)) (fun vq1 gq1 eq1 => ?_)
  obtain ⟨rfl, fq1⟩ := eq1
  rw [fq1]
  refine J_if_neB dX10_next_14 (fun d1 => ?_) (fun d1 => ?_)
  · refine J_aload_n dX10_next_20 rfl ?_
    refine J_iload_n dX10_next_21 rfl ?_
    refine J_cVI (ci := 10) (c := 158) (as := [pI (nI (aN A))]) (st := []) dX10_next_22 lX10_347 okX10_readList vX10_readList s158 (by decide) rfl rfl rfl (Nat.le_of_ble_eq_true rfl) ⟨Nat.le_of_ble_eq_true rfl, Nat.le_of_ble_eq_true rfl⟩ CR.f (c_X10_readList (A := eA A) hG hM hW (by omega)) (fun v1 g1 e1 => ?_)
    obtain ⟨rfl, f1, zr⟩ := e1
    have hG := f1.g hG
    have hM := hM.mq f1.m179
    have hF := hF.tr f1.m179.fr
    refine J_cvI (y := bI (rowOk (aP A) (aT A) (aN A))) rfl ?_
    refine J_if_neB dX10_next_25 (fun d2 => ?_) (fun d2 => ?_)
    · exact absurd d2 (hno.elim (fun y => absurd y (by omega)) id)
    · refine J_iconst (x := -1) dX10_next_28 (by decide) ?_
      exact J_retI dX10_next_29 rfl ⟨(if_neg (by omega)).symm, hM, hF⟩
  · refine J_bipush (x := (-4)) dX10_next_17 (by decide) ?_
    exact J_retI dX10_next_19 rfl ⟨(if_pos (by omega)).symm, hM, hF⟩
theorem c_X10_next {h : PH} {A : AS} (hG : GR h.2.2) (hM : MI h A) (hW : WF A) : CtI mX10_next h [pR (some 158)] (fun v h' => v = nextA A ∧ MP h h' (eA A)) := by
  by_cases hok : 0 < aP A 0 2 0 ∧ rowOk (aP A) (aT A) (aN A)
  · rw [nextA, if_neg (by omega), if_pos hok.2]
    exact c_X10_next_in hG hM hW hok.1 hok.2
  · have e : nextA A = if aP A 0 2 0 = 0 then -4 else -1 := by
      unfold nextA
      by_cases y : aP A 0 2 0 = 0
      · rw [if_pos y, if_pos y]
      · rw [if_neg y, if_neg y, if_neg (fun x => hok ⟨Nat.pos_of_ne_zero y, x⟩)]
    rw [e]
    refine c_X10_next_no hG hM hW ?_
    by_cases y : aP A 0 2 0 = 0
    · exact Or.inl y
    · exact Or.inr (fun x => hok ⟨Nat.pos_of_ne_zero y, x⟩)
