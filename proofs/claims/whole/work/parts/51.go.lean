theorem c_X6_passThing {h : PH} {th t n ne rk rl so : Nat} {x : Nat → Nat} (hG : GR h.2.2) (hth : IsTh th) (ht : t < 4) (hT : TH h th rk rl so) (hx : ∀ i, i < 7 → i ≠ 5 → h.1 (117 + 2 + i) t = nI (x i)) (b0 : x 0 ≤ 40) (hn : n ≤ 3) (hne : ne ≤ 10) : CtV mX6_passThing h [pR (some 117), pR (some th), pI (nI t), pI (nI n), pI (nI ne)] (fun h' => (∀ i, i < 7 → h'.1 (117 + 2 + i) t = rwV i (tW rk rl so ne x n i)) ∧ PTt t h h') := by
  have hrn : IsRn 117 := Or.inl rfl
  have bth := hth.lt
  refine Ct.of (L := [some (pR (some 117)), some (pR (some th)), some (pI (nI t)), some (pI (nI n)), some (pI (nI ne))]) rfl rfl (Nat.le_of_ble_eq_true rfl) rfl ?_
  refine J_aload_n dX6_passThing_0 rfl ?_
  refine J_getR (r := some (117 + 9)) dX6_passThing_1 fX6_23 s117 (fun _ => rfl) (hrn.e6 hG) ?_
  refine J_aload_n dX6_passThing_4 rfl ?_
  refine J_aload_n dX6_passThing_5 rfl ?_
  refine J_getR (r := some (117 + 1)) dX6_passThing_6 fX6_17 s117 (fun _ => rfl) (hrn.e4 hG) ?_
  refine J_iconstN (n := 0) dX6_passThing_9 ?_
  refine J_aald7N (r := some (117 + 2 + 0)) dX6_passThing_10 hrn.s1 (by decide) (by omega) (hrn.er hG (by omega)) ?_
  refine J_iload_n dX6_passThing_11 rfl ?_
  refine J_ialdN dX6_passThing_12 (hrn.sr (by omega)) (by decide) (by omega) ?_
  refine J_cvI ((hx 0 (by decide) (by decide))) ?_
  refine J_iload_n dX6_passThing_13 rfl ?_
  refine J_iload dX6_passThing_14 rfl ?_
  refine J_cVV (ci := 8) (c := 117 + 9) (as := [pR (some th), pI (nI (x 0)), pI (nI n), pI (nI ne)]) (st := []) dX6_passThing_16 lX6_90 okX8_giveOut vX8_giveOut hrn.s9 (by decide) rfl rfl rfl (Nat.le_of_ble_eq_true rfl) ⟨Nat.le_of_ble_eq_true rfl, Nat.le_of_ble_eq_true rfl⟩ CR.f (c_X8_giveOut (by unfold IsWk; omega) hth hT.1 hT.2.1 hT.2.2.2.1 hT.2.2.2.2.1 (by omega) (by omega) (by omega)) (fun g1 e1 => ?_)
  obtain ⟨⟨w1, w2, w3, w0⟩, f1, l1⟩ := wk4 e1
  have hG := f1.g hG
  have hrs := rs_le rk rl (x 0) n ne
  refine J_aload_n dX6_passThing_19 rfl ?_
  refine J_getR (r := some (117 + 9)) dX6_passThing_20 fX6_23 s117 (fun _ => rfl) (hrn.e6 hG) ?_
  refine J_aload_n dX6_passThing_23 rfl ?_
  refine J_cVV (ci := 8) (c := 117 + 9) (as := [pR (some th)]) (st := []) dX6_passThing_24 lX6_93 okX8_letSpoil vX8_letSpoil hrn.s9 (by decide) rfl rfl rfl (Nat.le_of_ble_eq_true rfl) ⟨Nat.le_of_ble_eq_true rfl, Nat.le_of_ble_eq_true rfl⟩ CR.f (c_X8_letSpoil (by unfold IsWk; omega) hth ((f1.i (by omega)).trans hT.2.2.1) w0 hT.2.2.2.2.2 (by omega)) (fun g2 e2 => ?_)
  obtain ⟨⟨v4, v0, vo⟩, f2, l2⟩ := wk5 e2
  have hG := f2.g hG
  refine J_aload_n dX6_passThing_27 rfl ?_
  refine J_getR (r := some (117 + 1)) dX6_passThing_28 fX6_17 s117 (fun _ => rfl) (hrn.e4 hG) ?_
  refine J_iconstN (n := 0) dX6_passThing_31 ?_
  refine J_aald7N (r := some (117 + 2 + 0)) dX6_passThing_32 hrn.s1 (by decide) (by omega) (hrn.er hG (by omega)) ?_
  refine J_iload_n dX6_passThing_33 rfl ?_
  refine J_aload_n dX6_passThing_34 rfl ?_
  refine J_getR (r := some (117 + 9)) dX6_passThing_35 fX6_23 s117 (fun _ => rfl) (hrn.e6 hG) ?_
  refine J_getI dX6_passThing_38 fX6_97 hrn.s9 (fun _ => rfl) ?_
  refine J_cvI ((show _ = nI (nxN rk rl so ne (x 0) n) from v0)) ?_
  refine J_iastN dX6_passThing_41 (hrn.sr (by omega)) (by decide) (by omega) ?_
  refine J_aload_n dX6_passThing_42 rfl ?_
  refine J_getR (r := some (117 + 1)) dX6_passThing_43 fX6_17 s117 (fun _ => rfl) ((xRI).trans (hrn.e4 hG)) ?_
  refine J_iconstN (n := 1) dX6_passThing_46 ?_
  refine J_aald7N (r := some (117 + 2 + 1)) dX6_passThing_47 hrn.s1 (by decide) (by omega) (hrn.er hG (by omega)) ?_
  refine J_iload_n dX6_passThing_48 rfl ?_
  refine J_dup2 dX6_passThing_49 rfl rfl ?_
  refine J_ialdN dX6_passThing_50 (hrn.sr (by omega)) (by decide) (by omega) ?_
  refine J_cvI ((rI_c (by omega)).trans (((f2.i (by omega)).trans ((f1.i (by omega)).trans (hx 1 (by decide) (by decide)))))) ?_
  refine J_aload_n dX6_passThing_51 rfl ?_
  refine J_getR (r := some (117 + 9)) dX6_passThing_52 fX6_23 s117 (fun _ => rfl) ((xRI).trans (hrn.e6 hG)) ?_
  refine J_getI dX6_passThing_55 fX6_100 hrn.s9 (fun _ => rfl) ?_
  refine J_cvI ((rI_c (by omega)).trans (((vo 1 (by decide) (by decide)).trans w1))) ?_
  refine J_iaddN dX6_passThing_58 ?_
  refine J_iastN dX6_passThing_59 (hrn.sr (by omega)) (by decide) (by omega) ?_
  refine J_aload_n dX6_passThing_60 rfl ?_
  refine J_getR (r := some (117 + 1)) dX6_passThing_61 fX6_17 s117 (fun _ => rfl) ((xRI).trans ((xRI).trans (hrn.e4 hG))) ?_
  refine J_iconstN (n := 2) dX6_passThing_64 ?_
  refine J_aald7N (r := some (117 + 2 + 2)) dX6_passThing_65 hrn.s1 (by decide) (by omega) (hrn.er hG (by omega)) ?_
  refine J_iload_n dX6_passThing_66 rfl ?_
  refine J_dup2 dX6_passThing_67 rfl rfl ?_
  refine J_ialdN dX6_passThing_68 (hrn.sr (by omega)) (by decide) (by omega) ?_
  refine J_cvI ((rI_c (by omega)).trans ((rI_c (by omega)).trans (((f2.i (by omega)).trans ((f1.i (by omega)).trans (hx 2 (by decide) (by decide))))))) ?_
  refine J_aload_n dX6_passThing_69 rfl ?_
  refine J_getR (r := some (117 + 9)) dX6_passThing_70 fX6_23 s117 (fun _ => rfl) ((xRI).trans ((xRI).trans (hrn.e6 hG))) ?_
  refine J_getI dX6_passThing_73 fX6_103 hrn.s9 (fun _ => rfl) ?_
  refine J_cvI ((rI_c (by omega)).trans ((rI_c (by omega)).trans (((vo 2 (by decide) (by decide)).trans w2)))) ?_
  refine J_iaddN dX6_passThing_76 ?_
  refine J_iastN dX6_passThing_77 (hrn.sr (by omega)) (by decide) (by omega) ?_
  refine J_aload_n dX6_passThing_78 rfl ?_
  refine J_getR (r := some (117 + 1)) dX6_passThing_79 fX6_17 s117 (fun _ => rfl) ((xRI).trans ((xRI).trans ((xRI).trans (hrn.e4 hG)))) ?_
  refine J_iconstN (n := 3) dX6_passThing_82 ?_
  refine J_aald7N (r := some (117 + 2 + 3)) dX6_passThing_83 hrn.s1 (by decide) (by omega) (hrn.er hG (by omega)) ?_
  refine J_iload_n dX6_passThing_84 rfl ?_
  refine J_dup2 dX6_passThing_85 rfl rfl ?_
  refine J_ialdN dX6_passThing_86 (hrn.sr (by omega)) (by decide) (by omega) ?_
  refine J_cvI ((rI_c (by omega)).trans ((rI_c (by omega)).trans ((rI_c (by omega)).trans (((f2.i (by omega)).trans ((f1.i (by omega)).trans (hx 3 (by decide) (by decide)))))))) ?_
  refine J_aload_n dX6_passThing_87 rfl ?_
  refine J_getR (r := some (117 + 9)) dX6_passThing_88 fX6_23 s117 (fun _ => rfl) ((xRI).trans ((xRI).trans ((xRI).trans (hrn.e6 hG)))) ?_
  refine J_getI dX6_passThing_91 fX6_106 hrn.s9 (fun _ => rfl) ?_
  refine J_cvI ((rI_c (by omega)).trans ((rI_c (by omega)).trans ((rI_c (by omega)).trans (((vo 3 (by decide) (by decide)).trans w3))))) ?_
  refine J_iaddN dX6_passThing_94 ?_
  refine J_iastN dX6_passThing_95 (hrn.sr (by omega)) (by decide) (by omega) ?_
  refine J_aload_n dX6_passThing_96 rfl ?_
  refine J_getR (r := some (117 + 1)) dX6_passThing_97 fX6_17 s117 (fun _ => rfl) ((xRI).trans ((xRI).trans ((xRI).trans ((xRI).trans (hrn.e4 hG))))) ?_
  refine J_iconstN (n := 4) dX6_passThing_100 ?_
  refine J_aald7N (r := some (117 + 2 + 4)) dX6_passThing_101 hrn.s1 (by decide) (by omega) (hrn.er hG (by omega)) ?_
  refine J_iload_n dX6_passThing_102 rfl ?_
  refine J_dup2 dX6_passThing_103 rfl rfl ?_
  refine J_ialdN dX6_passThing_104 (hrn.sr (by omega)) (by decide) (by omega) ?_
  refine J_cvI ((rI_c (by omega)).trans ((rI_c (by omega)).trans ((rI_c (by omega)).trans ((rI_c (by omega)).trans (((f2.i (by omega)).trans ((f1.i (by omega)).trans (hx 4 (by decide) (by decide))))))))) ?_
  refine J_aload_n dX6_passThing_105 rfl ?_
  refine J_getR (r := some (117 + 9)) dX6_passThing_106 fX6_23 s117 (fun _ => rfl) ((xRI).trans ((xRI).trans ((xRI).trans ((xRI).trans (hrn.e6 hG))))) ?_
  refine J_getI dX6_passThing_109 fX6_109 hrn.s9 (fun _ => rfl) ?_
  refine J_cvI ((rI_c (by omega)).trans ((rI_c (by omega)).trans ((rI_c (by omega)).trans ((rI_c (by omega)).trans (v4))))) ?_
  refine J_iaddN dX6_passThing_112 ?_
  refine J_iastN dX6_passThing_113 (hrn.sr (by omega)) (by decide) (by omega) ?_
  refine J_aload_n dX6_passThing_114 rfl ?_
  refine J_getR (r := some (117 + 1)) dX6_passThing_115 fX6_17 s117 (fun _ => rfl) ((xRI).trans ((xRI).trans ((xRI).trans ((xRI).trans ((xRI).trans (hrn.e4 hG)))))) ?_
  refine J_iconstN (n := 5) dX6_passThing_118 ?_
  refine J_aald7N (r := some (117 + 2 + 5)) dX6_passThing_119 hrn.s1 (by decide) (by omega) (hrn.er hG (by omega)) ?_
  refine J_iload_n dX6_passThing_120 rfl ?_
  refine J_iload_n dX6_passThing_121 rfl ?_
  refine J_iastN dX6_passThing_122 (hrn.sr (by omega)) (by decide) (by omega) ?_
  exact J_retV dX6_passThing_123 rfl ⟨fun i hi => by
    rcases (show i = 0 ∨ i = 1 ∨ i = 2 ∨ i = 3 ∨ i = 4 ∨ i = 5 ∨ i = 6 by omega) with rfl | rfl | rfl | rfl | rfl | rfl | rfl
    · exact (rI_c (by decide)).trans ((rI_c (by decide)).trans ((rI_c (by decide)).trans ((rI_c (by decide)).trans ((rI_c (by decide)).trans (rI_s)))))
    · exact (rI_c (by decide)).trans ((rI_c (by decide)).trans ((rI_c (by decide)).trans ((rI_c (by decide)).trans (rI_s))))
    · exact (rI_c (by decide)).trans ((rI_c (by decide)).trans ((rI_c (by decide)).trans (rI_s)))
    · exact (rI_c (by decide)).trans ((rI_c (by decide)).trans (rI_s))
    · exact (rI_c (by decide)).trans (rI_s)
    · exact rI_s
    · exact (rI_c (by decide)).trans ((rI_c (by decide)).trans ((rI_c (by decide)).trans ((rI_c (by decide)).trans ((rI_c (by decide)).trans ((rI_c (by decide)).trans (((f2.i (by omega)).trans ((f1.i (by omega)).trans (hx 6 (by decide) (by decide)))))))))), (((((((PTt.w f1 l1).tr (PTt.w f2 l2)).tr (PTt.s (by decide) (by decide))).tr (PTt.s (by decide) (by decide))).tr (PTt.s (by decide) (by decide))).tr (PTt.s (by decide) (by decide))).tr (PTt.s (by decide) (by decide))).tr (PTt.s (by decide) (by decide))⟩
theorem c_X6_passWeek {h : PH} {p : Nat} {A : AS} (hG : GR h.2.2) (hX : XI h p A) (hW : WF A) (hon : aR A 0 0 = 1) : CtV mX6_passWeek h [pR (some 117), pR (some p)] (fun h' => XP h h' p (stepA A)) := by
  have bN := hW.1
  have bk := hW.wk
  have bc := hW.cs
  have bw := hW.wn
  have bt := hW.tn
  have bf := hW.fn
  have hrn : IsRn 117 := Or.inl rfl
  have bo : aR A 0 0 < 2 := hW.on (by decide)
  have bl : (aL A).1 < 2 := hW.2.2.2.2.1.1
  obtain ⟨hr1, hr2, hr3, hrs, hrw⟩ := (hW.rn (r := 0) (by decide)).2 hon
  have hGh := hG
  have bp := hX.po.b
  refine Ct.of (L := [some (pR (some 117)), some (pR (some p)), none, none]) rfl rfl (Nat.le_of_ble_eq_true rfl) rfl ?_
  refine J_aload_n dX6_passWeek_0 rfl ?_
  refine J_aload_n dX6_passWeek_1 rfl ?_
  refine J_aload_n dX6_passWeek_2 rfl ?_
  refine J_getR (r := some (p + 2)) dX6_passWeek_3 fX6_68 hX.po.s (fun _ => rfl) (hX.po.e9 hG) ?_
  refine J_aload_n dX6_passWeek_6 rfl ?_
  refine J_getI dX6_passWeek_7 fX6_42 s117 (fun _ => rfl) ?_
  refine J_cvI ((hX.rn.2 hon).1) ?_
  refine J_aald7N (r := some (p + 3 + (aR A 0 1))) dX6_passWeek_10 hX.po.s2 (by decide) (by omega) (hX.po.esg hG (by omega)) ?_
  refine J_iconstN (n := 3) dX6_passWeek_11 ?_
  refine J_cVI (ci := 6) (c := 117) (as := [pR (some (p + 3 + (aR A 0 1))), pI (nI 3)]) (st := [pR (some 117)]) dX6_passWeek_12 lX6_70 okX6_drawKind vX6_drawKind s117 (by decide) rfl rfl rfl (Nat.le_of_ble_eq_true rfl) ⟨Nat.le_of_ble_eq_true rfl, Nat.le_of_ble_eq_true rfl⟩ CR.f (c_X6_drawKind3 (u := fun k => aP A 1 (aR A 0 1) (k + 1)) (hX.po.sg (by omega)) (fun k hk => hX.sg hr1 hk) (fun k hk => hW.sg hr1 (by omega)) (hX.rn.2 hon).2.2.2.1 hrs) (fun v0 g0 e0 => ?_)
  obtain ⟨rfl, e0⟩ := e0
  have hG : GR g0.2.2 := by rw [e0]; exact hG
  refine J_putI dX6_passWeek_15 fX6_35 s117 rfl (vp_nar_int _) rfl (fun _ _ => rfl) ?_
  refine J_iconstN (n := 0) dX6_passWeek_18 ?_
  refine J_istore_n (L' := [some (pR (some 117)), some (pR (some p)), some (pI (nI 0)), none]) dX6_passWeek_19 (by decide) rfl ?_
  refine J_L (L' := [some (pR (some 117)), some (pR (some p)), some (pI (nI 0)), none]) rfl ?_
  generalize hg : sI (g0) 117 3 (nI (fk (fun k => aP A 1 (aR A 0 1) (k + 1)) (dv (dr (aS A 0))) 2)) = g
  have gF : Fr 117 117 h g := by rw [← hg, e0]; exact (Fr.sL (by decide) (by decide)).tr (Fr.sI (by decide) (by decide))
  have gi : ∀ k, k ≠ 3 → g.1 117 k = h.1 117 k := fun k hk => by rw [← hg, e0]; exact (rI_k hk).trans xIL
  have g3 : g.1 117 3 = nI (fk (fun k => aP A 1 (aR A 0 1) (k + 1)) (dv (dr (aS A 0))) 2) := by rw [← hg]; exact rI_s
  have g5 : g.2.1 117 5 = lN (dr (aS A 0)) := by rw [← hg, e0]; exact xLI.trans rL_s
  have hG0 : GR g.2.2 := by rw [gF.2]; exact hGh
  refine J_forI (α := Unit) (L := fun i1 aa1 => [some (pR (some 117)), some (pR (some p)), some (pI (nI i1)), none]) (fun i1 aa1 h1 => (∀ t, t < aP A 0 3 0 → ∀ k, k < 7 → h1.1 (117 + 2 + k) t = rwV k ((stW A i1).1 k t)) ∧ h1.2.1 117 5 = lN (stW A i1).2 ∧ h1.1 117 = g.1 117 ∧ Fr 117 126 h h1) (e := aP A 0 3 0) (fun aa1 h1 hI1 => ?_) (fun i1 aa1 h1 hi1 hI1 ih1 => ?_) 0 (()) _ (by omega) (⟨fun t ht k hk => (gF.i (by omega)).trans ((hX.rn.2 hon).2.2.2.2 t ht k hk), g5, rfl, gF.mo (by decide) (by decide)⟩)
  · show J _ _ _ _ _ [some (pR (some 117)), some (pR (some p)), some (pI (nI (aP A 0 3 0))), none] _ _ h1
    obtain ⟨hI2, hI3, hI4, hI5⟩ := hI1
    have hG : GR h1.2.2 := hI5.g hGh
    refine J_iload_n dX6_passWeek_20 rfl ?_
    refine J_aload_n dX6_passWeek_21 rfl ?_
    refine J_getI dX6_passWeek_22 fX6_74 hX.po.s (fun _ => rfl) ?_
    refine J_cvI (((hI5.i (by omega)).trans hX.tn)) ?_
    refine J_icmp_geN dX6_passWeek_25 (by omega) (by omega) (fun c1 => ?_) (fun c1 => ?_)
    · refine J_aload_n dX6_passWeek_69 rfl ?_
      refine J_dup dX6_passWeek_70 rfl ?_
      refine J_getI dX6_passWeek_71 fX6_31 s117 (fun _ => rfl) ?_
      refine J_cvI (((congrFun hI4 2).trans ((gi 2 (by decide)).trans (hX.rn.2 hon).2.1))) ?_
      refine J_iconstN (n := 1) dX6_passWeek_74 ?_
      refine J_iaddN dX6_passWeek_75 ?_
      refine J_putI dX6_passWeek_76 fX6_31 s117 rfl (vp_nar_int _) rfl (fun _ _ => rfl) ?_
      have FF : Fr 117 126 h (sI h1 117 2 (nI (aR A 0 2 + 1))) := hI5.tr (Fr.sI (by decide) (by decide))
      exact J_retV dX6_passWeek_79 rfl ⟨hX.run hW (r0 := 0) (by decide) FF (show RnX _ 117 (aP A) (gR (aP A) (aR A 0) (aS A 0)) (stW A (aP A 0 3 0)).1 (stW A (aP A 0 3 0)).2 from ⟨(rI_k (by decide)).trans ((congrFun hI4 0).trans ((gi 0 (by decide)).trans hX.rn.1)), fun _ => ⟨(rI_k (by decide)).trans ((congrFun hI4 1).trans ((gi 1 (by decide)).trans (hX.rn.2 hon).1)), rI_s, (rI_k (by decide)).trans ((congrFun hI4 3).trans g3), xLI.trans hI3, fun t ht i hi => (rI_c (by omega)).trans (hI2 t ht i hi)⟩⟩), FF.mo (by decide) (by decide)⟩
    · exact (show False by omega).elim
  · show J _ _ _ _ _ [some (pR (some 117)), some (pR (some p)), some (pI (nI i1)), none] _ _ h1
    obtain ⟨hI2, hI3, hI4, hI5⟩ := hI1
    have hG : GR h1.2.2 := hI5.g hGh
    refine J_iload_n dX6_passWeek_20 rfl ?_
    refine J_aload_n dX6_passWeek_21 rfl ?_
    refine J_getI dX6_passWeek_22 fX6_74 hX.po.s (fun _ => rfl) ?_
    refine J_cvI (((hI5.i (by omega)).trans hX.tn)) ?_
    refine J_icmp_geN dX6_passWeek_25 (by omega) (by omega) (fun c2 => ?_) (fun c2 => ?_)
    · exact (show False by omega).elim
    · refine J_aload_n dX6_passWeek_28 rfl ?_
      refine J_getR (r := some (p + 7)) dX6_passWeek_29 fX6_77 hX.po.s (fun _ => rfl) (hX.po.e10 hG) ?_
      refine J_iload_n dX6_passWeek_32 rfl ?_
      refine J_aald4N (r := some (p + 9 + 7 * i1)) dX6_passWeek_33 hX.po.s7 (by decide) (by omega) (hX.po.eth hG (by omega)) ?_
      refine J_getR (r := some (p + 9 + 7 * i1 + 1)) dX6_passWeek_34 fX6_81 (hX.th hW hi1).s (fun _ => rfl) ((hX.th hW hi1).e10 hG) ?_
      refine J_aload_n dX6_passWeek_37 rfl ?_
      refine J_getI dX6_passWeek_38 fX6_42 s117 (fun _ => rfl) ?_
      refine J_cvI (((congrFun hI4 1).trans ((gi 1 (by decide)).trans (hX.rn.2 hon).1))) ?_
      refine J_aald7N (r := some (p + 9 + 7 * i1 + 2 + (aR A 0 1))) dX6_passWeek_41 (hX.th hW hi1).s1 (by decide) (by omega) ((hX.th hW hi1).ew hG (by omega)) ?_
      refine J_astore_n (L' := [some (pR (some 117)), some (pR (some p)), some (pI (nI i1)), some (pR (some (p + 9 + 7 * i1 + 2 + (aR A 0 1))))]) dX6_passWeek_42 (by decide) rfl ?_
      refine J_aload_n dX6_passWeek_43 rfl ?_
      refine J_aload_n dX6_passWeek_44 rfl ?_
      refine J_getR (r := some (p + 7)) dX6_passWeek_45 fX6_77 hX.po.s (fun _ => rfl) (hX.po.e10 hG) ?_
      refine J_iload_n dX6_passWeek_48 rfl ?_
      refine J_aald4N (r := some (p + 9 + 7 * i1)) dX6_passWeek_49 hX.po.s7 (by decide) (by omega) (hX.po.eth hG (by omega)) ?_
      refine J_iload_n dX6_passWeek_50 rfl ?_
      refine J_aload_n dX6_passWeek_51 rfl ?_
      refine J_aload_n dX6_passWeek_52 rfl ?_
      refine J_iconstN (n := 4) dX6_passWeek_53 ?_
      refine J_cVI (ci := 6) (c := 117) (as := [pR (some (p + 9 + 7 * i1 + 2 + (aR A 0 1))), pI (nI 4)]) (st := [pI (nI i1), pR (some (p + 9 + 7 * i1)), pR (some 117)]) dX6_passWeek_54 lX6_70 okX6_drawKind vX6_drawKind s117 (by decide) rfl rfl rfl (Nat.le_of_ble_eq_true rfl) ⟨Nat.le_of_ble_eq_true rfl, Nat.le_of_ble_eq_true rfl⟩ CR.f (c_X6_drawKind4 (u := aP A 3 (4 * i1 + aR A 0 1)) ((hX.th hW hi1).sw (by omega)) (fun k hk => (hI5.i (by omega)).trans (hX.w hi1 (by omega) (by omega))) (fun k hk => hW.u hi1 (by omega) (by omega)) hI3 (wkT_s (dr_lt _) i1)) (fun v2 g2 e2 => ?_)
      obtain ⟨rfl, e2⟩ := e2
      have hG : GR g2.2.2 := by rw [e2]; exact hG
      have F2 : Fr 117 126 h g2 := hI5.tr (by rw [e2]; exact Fr.sL (by decide) (by decide))
      have hfk := fk_le (u := aP A 3 (4 * i1 + aR A 0 1)) (d := dv (dr (stW A i1).2)) 3
      have h0 : (stW A i1).1 0 i1 ≤ 40 := by rw [wkT_hi i1 0 i1 (Nat.le_refl i1)]; exact (hW.x7 hon hi1).1
      have hu4 := hW.u hi1 (w := aR A 0 1) (n := 4) (by omega) (by decide)
      refine J_aload_n dX6_passWeek_57 rfl ?_
      refine J_iconstN (n := 4) dX6_passWeek_58 ?_
      refine J_ialdN dX6_passWeek_59 ((hX.th hW hi1).sw (by omega)) (by decide) (by omega) ?_
      refine J_cvI ((show g2.1 (p + 9 + 7 * i1 + 2 + aR A 0 1) 4 = nI (aP A 3 (4 * i1 + aR A 0 1) 4) from (by rw [e2]; exact (hI5.i (by omega)).trans (hX.w hi1 (by omega) (by decide))))) ?_
      refine J_cVV (ci := 6) (c := 117) (as := [pR (some (p + 9 + 7 * i1)), pI (nI i1), pI (nI (fk (aP A 3 (4 * i1 + aR A 0 1)) (dv (dr (stW A i1).2)) 3)), pI (nI (aP A 3 (4 * i1 + aR A 0 1) 4))]) (st := []) dX6_passWeek_60 lX6_86 okX6_passThing vX6_passThing s117 (by decide) rfl rfl rfl (Nat.le_of_ble_eq_true rfl) ⟨Nat.le_of_ble_eq_true rfl, Nat.le_of_ble_eq_true rfl⟩ CR.f (c_X6_passThing (x := fun k => (stW A i1).1 k i1) hG (hX.th hW hi1) (by omega) ((hX.ta hW hi1).th.fr F2 (by omega)) (fun k hk h5 => by rw [e2]; exact (hI2 i1 hi1 k hk).trans (if_neg h5)) h0 hfk hu4) (fun g3 e3 => ?_)
      refine J_iincN (n := 1) (L' := [some (pR (some 117)), some (pR (some p)), some (pI (nI (i1 + 1))), some (pR (some (p + 9 + 7 * i1 + 2 + (aR A 0 1))))]) dX6_passWeek_63 rfl (by decide) rfl ?_
      refine J_goto dX6_passWeek_66 ?_
      refine J_drop (L' := [some (pR (some 117)), some (pR (some p)), some (pI (nI (i1 + 1))), none]) 3 rfl ?_
      exact ih1 () _ ⟨fun t ht k hk => by
          by_cases q : t = i1
          · subst q; exact (e3.1 k hk).trans (congrArg (rwV k) (if_pos rfl).symm)
          · refine (e3.2.2.1 (117 + 2 + k) t (by omega) (by omega) q).trans ?_
            rw [e2]
            exact (hI2 t ht k hk).trans (congrArg (rwV k) (if_neg q).symm), by rw [e3.2.2.2, e2]; exact rL_s, (e3.2.1 117 (by decide)).trans (by rw [e2]; exact hI4), F2.tr (e3.2.fr.mo (by decide) (by decide))⟩
theorem c_X9_go_in {h : PH} {p : Nat} {A : AS} {n : Nat} (hG : GR h.2.2) (hX : XI h p A) (hW : WF A) (hn : n < 6) (hon : aR A 0 0 = 1) (hk : aR A 0 2 + n ≤ aP A 0 0 0) : CtI mX9_go h [pR (some 0), pI (nI n)] (fun v h' => v = nI (aR A 0 2 + n) ∧ XP h h' p (goN A n)) := by
  have bN := hW.1
  have bk := hW.wk
  have bc := hW.cs
  have bw := hW.wn
  have bt := hW.tn
  have bf := hW.fn
  have hrn : IsRn 117 := Or.inl rfl
  have bo : aR A 0 0 < 2 := hW.on (by decide)
  have bl : (aL A).1 < 2 := hW.2.2.2.2.1.1
  obtain ⟨hr1, hr2, hr3, hrs, hrw⟩ := (hW.rn (r := 0) (by decide)).2 hon
  have hcu := hX.cu
  have hG0 := hG
  refine Ct.of (L := [some (pR (some 0)), some (pI (nI n)), none]) rfl rfl (Nat.le_of_ble_eq_true rfl) rfl ?_
  refine J_iload_n dX9_go_0 rfl ?_
  refine J_if_ltN dX9_go_1 (by omega) ?_
  refine J_iload_n dX9_go_4 rfl ?_
  refine J_iconstN (n := 5) dX9_go_5 ?_
  refine J_icmp_leN dX9_go_6 (by omega) (by omega) (fun c1 => ?_) (fun c1 => ?_)
  · refine J_aload_n dX9_go_12 rfl ?_
    refine J_getR (r := some 117) dX9_go_13 fX9_62 s0 (fun _ => rfl) (g0_9 hG) ?_
    refine J_getI dX9_go_16 fX9_95 s117 (fun _ => rfl) ?_
    refine J_cvI (hX.rn.1) ?_
    refine J_if_neN dX9_go_19 (by omega) (fun c2 => ?_) (fun c2 => ?_)
    · refine J_iload_n dX9_go_25 rfl ?_
      refine J_aload_n dX9_go_26 rfl ?_
      refine J_getR (r := some p) dX9_go_27 fX9_20 s0 (fun _ => rfl) (hcu) ?_
      refine J_getI dX9_go_30 fX9_104 hX.po.s (fun _ => rfl) ?_
      refine J_cvI (hX.wk) ?_
      refine J_aload_n dX9_go_33 rfl ?_
      refine J_getR (r := some 117) dX9_go_34 fX9_62 s0 (fun _ => rfl) (g0_9 hG) ?_
      refine J_getI dX9_go_37 fX9_312 s117 (fun _ => rfl) ?_
      refine J_cvI ((hX.rn.2 hon).2.1) ?_
      refine J_isubN dX9_go_40 (by omega) ?_
      refine J_icmp_leN dX9_go_41 (by omega) (by omega) (fun c3 => ?_) (fun c3 => ?_)
      · refine J_iconstN (n := 0) dX9_go_47 ?_
        refine J_istore_n (L' := [some (pR (some 0)), some (pI (nI n)), some (pI (nI 0))]) dX9_go_48 (by decide) rfl ?_
        refine J_L (L' := [some (pR (some 0)), some (pI (nI n)), some (pI (nI 0))]) rfl ?_
        refine J_forI (α := Unit) (L := fun i1 aa1 => [some (pR (some 0)), some (pI (nI n)), some (pI (nI i1))]) (fun i1 aa1 h1 => XI h1 p (goN A i1) ∧ Fr 0 157 h h1) (e := n) (fun aa1 h1 hI1 => ?_) (fun i1 aa1 h1 hi1 hI1 ih1 => ?_) 0 (()) _ (by omega) (⟨hX, Fr.rf⟩)
        · show J _ _ _ _ _ [some (pR (some 0)), some (pI (nI n)), some (pI (nI n))] _ _ h1
          obtain ⟨hI2, hI3⟩ := hI1
          have hG := hI3.g hG0
          have hcu := hI2.cu
          refine J_iload_n dX9_go_49 rfl ?_
          refine J_iload_n dX9_go_50 rfl ?_
          refine J_icmp_geN dX9_go_51 (by omega) (by omega) (fun c4 => ?_) (fun c4 => ?_)
          · refine J_aload_n dX9_go_71 rfl ?_
            refine J_getR (r := some 117) dX9_go_72 fX9_62 s0 (fun _ => rfl) (g0_9 hG) ?_
            refine J_getI dX9_go_75 fX9_312 s117 (fun _ => rfl) ?_
            refine J_cvI (((hI2.rn.2 (goN_on hon n)).2.1.trans (by rw [goN_2]))) ?_
            exact J_retI dX9_go_78 rfl ⟨rfl, hI2, hI3⟩
          · exact (show False by omega).elim
        · show J _ _ _ _ _ [some (pR (some 0)), some (pI (nI n)), some (pI (nI i1))] _ _ h1
          obtain ⟨hI2, hI3⟩ := hI1
          have hG := hI3.g hG0
          have hcu := hI2.cu
          refine J_iload_n dX9_go_49 rfl ?_
          refine J_iload_n dX9_go_50 rfl ?_
          refine J_icmp_geN dX9_go_51 (by omega) (by omega) (fun c5 => ?_) (fun c5 => ?_)
          · exact (show False by omega).elim
          · refine J_aload_n dX9_go_54 rfl ?_
            refine J_getR (r := some 117) dX9_go_55 fX9_62 s0 (fun _ => rfl) (g0_9 hG) ?_
            refine J_aload_n dX9_go_58 rfl ?_
            refine J_getR (r := some p) dX9_go_59 fX9_20 s0 (fun _ => rfl) (hcu) ?_
            refine J_cVV (ci := 6) (c := 117) (as := [pR (some p)]) (st := []) dX9_go_62 lX9_315 okX6_passWeek vX6_passWeek s117 (by decide) rfl rfl rfl (Nat.le_of_ble_eq_true rfl) ⟨Nat.le_of_ble_eq_true rfl, Nat.le_of_ble_eq_true rfl⟩ CR.f (c_X6_passWeek hG hI2 (hW.goN hon i1 (by omega)) (goN_on hon i1)) (fun g1 e1 => ?_)
            refine J_iincN (n := 1) (L' := [some (pR (some 0)), some (pI (nI n)), some (pI (nI (i1 + 1)))]) dX9_go_65 rfl (by decide) rfl ?_
            refine J_goto dX9_go_68 ?_
            exact ih1 () _ ⟨e1.1, hI3.tr e1.2⟩
      · exact (show False by omega).elim
    · exact (show False by omega).elim
  · exact (show False by omega).elim
theorem c_X9_go_far {h : PH} {p : Nat} {A : AS} {n : Nat} (hG : GR h.2.2) (hX : XI h p A) (hW : WF A) (hn : n < 6) (hon : aR A 0 0 = 1) (hk : ¬ aR A 0 2 + n ≤ aP A 0 0 0) : CtI mX9_go h [pR (some 0), pI (nI n)] (fun v h' => v = -2 ∧ XP h h' p A) := by
  have bN := hW.1
  have bk := hW.wk
  have bc := hW.cs
  have bw := hW.wn
  have bt := hW.tn
  have bf := hW.fn
  have hrn : IsRn 117 := Or.inl rfl
  have bo : aR A 0 0 < 2 := hW.on (by decide)
  have bl : (aL A).1 < 2 := hW.2.2.2.2.1.1
  obtain ⟨hr1, hr2, hr3, hrs, hrw⟩ := (hW.rn (r := 0) (by decide)).2 hon
  have hcu := hX.cu
  refine Ct.of (L := [some (pR (some 0)), some (pI (nI n)), none]) rfl rfl (Nat.le_of_ble_eq_true rfl) rfl ?_
  refine J_iload_n dX9_go_0 rfl ?_
  refine J_if_ltN dX9_go_1 (by omega) ?_
  refine J_iload_n dX9_go_4 rfl ?_
  refine J_iconstN (n := 5) dX9_go_5 ?_
  refine J_icmp_leN dX9_go_6 (by omega) (by omega) (fun c1 => ?_) (fun c1 => ?_)
  · refine J_aload_n dX9_go_12 rfl ?_
    refine J_getR (r := some 117) dX9_go_13 fX9_62 s0 (fun _ => rfl) (g0_9 hG) ?_
    refine J_getI dX9_go_16 fX9_95 s117 (fun _ => rfl) ?_
    refine J_cvI (hX.rn.1) ?_
    refine J_if_neN dX9_go_19 (by omega) (fun c2 => ?_) (fun c2 => ?_)
    · refine J_iload_n dX9_go_25 rfl ?_
      refine J_aload_n dX9_go_26 rfl ?_
      refine J_getR (r := some p) dX9_go_27 fX9_20 s0 (fun _ => rfl) (hcu) ?_
      refine J_getI dX9_go_30 fX9_104 hX.po.s (fun _ => rfl) ?_
      refine J_cvI (hX.wk) ?_
      refine J_aload_n dX9_go_33 rfl ?_
      refine J_getR (r := some 117) dX9_go_34 fX9_62 s0 (fun _ => rfl) (g0_9 hG) ?_
      refine J_getI dX9_go_37 fX9_312 s117 (fun _ => rfl) ?_
      refine J_cvI ((hX.rn.2 hon).2.1) ?_
      refine J_isubN dX9_go_40 (by omega) ?_
      refine J_icmp_leN dX9_go_41 (by omega) (by omega) (fun c3 => ?_) (fun c3 => ?_)
      · exact (show False by omega).elim
      · refine J_bipush (x := (-2)) dX9_go_44 (by decide) ?_
        exact J_retI dX9_go_46 rfl ⟨rfl, hX, Fr.rf⟩
    · exact (show False by omega).elim
  · exact (show False by omega).elim
theorem c_X9_go_off {h : PH} {p : Nat} {A : AS} {n : Nat} (hG : GR h.2.2) (hX : XI h p A) (hW : WF A) (hn : n < 6) (hof : ¬ aR A 0 0 = 1) : CtI mX9_go h [pR (some 0), pI (nI n)] (fun v h' => v = -4 ∧ XP h h' p A) := by
  have bN := hW.1
  have bk := hW.wk
  have bc := hW.cs
  have bw := hW.wn
  have bt := hW.tn
  have bf := hW.fn
  have hrn : IsRn 117 := Or.inl rfl
  have bo : aR A 0 0 < 2 := hW.on (by decide)
  have bl : (aL A).1 < 2 := hW.2.2.2.2.1.1
  have hcu := hX.cu
  refine Ct.of (L := [some (pR (some 0)), some (pI (nI n)), none]) rfl rfl (Nat.le_of_ble_eq_true rfl) rfl ?_
  refine J_iload_n dX9_go_0 rfl ?_
  refine J_if_ltN dX9_go_1 (by omega) ?_
  refine J_iload_n dX9_go_4 rfl ?_
  refine J_iconstN (n := 5) dX9_go_5 ?_
  refine J_icmp_leN dX9_go_6 (by omega) (by omega) (fun c1 => ?_) (fun c1 => ?_)
  · refine J_aload_n dX9_go_12 rfl ?_
    refine J_getR (r := some 117) dX9_go_13 fX9_62 s0 (fun _ => rfl) (g0_9 hG) ?_
    refine J_getI dX9_go_16 fX9_95 s117 (fun _ => rfl) ?_
    refine J_cvI (hX.rn.1) ?_
    refine J_if_neN dX9_go_19 (by omega) (fun c2 => ?_) (fun c2 => ?_)
    · exact (show False by omega).elim
    · refine J_bipush (x := (-4)) dX9_go_22 (by decide) ?_
      exact J_retI dX9_go_24 rfl ⟨rfl, hX, Fr.rf⟩
  · exact (show False by omega).elim
theorem c_X9_go_no {h : PH} {p : Nat} {A : AS} {n : Int32} (hG : GR h.2.2) (hX : XI h p A) (hW : WF A) (hno : ¬ inR n 6) : CtI mX9_go h [pR (some 0), pI n] (fun v h' => v = -2 ∧ XP h h' p A) := by
  have bN := hW.1
  have bk := hW.wk
  have bc := hW.cs
  have bw := hW.wn
  have bt := hW.tn
  have bf := hW.fn
  have hrn : IsRn 117 := Or.inl rfl
  have bo : aR A 0 0 < 2 := hW.on (by decide)
  have bl : (aL A).1 < 2 := hW.2.2.2.2.1.1
  have hcu := hX.cu
  refine Ct.of (L := [some (pR (some 0)), some (pI n), none]) rfl rfl (Nat.le_of_ble_eq_true rfl) rfl ?_
  refine J_iload_n dX9_go_0 rfl ?_
  refine J_if_lt dX9_go_1 (fun d1 => ?_) (fun d1 => ?_)
  · refine J_bipush (x := (-2)) dX9_go_9 (by decide) ?_
    exact J_retI dX9_go_11 rfl ⟨rfl, hX, Fr.rf⟩
  · refine J_iload_n dX9_go_4 rfl ?_
    refine J_iconstN (n := 5) dX9_go_5 ?_
    refine J_icmp_le dX9_go_6 (fun d2 => ?_) (fun d2 => ?_)
    · exact absurd (inR_c (n := 5) (by decide) d1 d2) hno
    · refine J_bipush (x := (-2)) dX9_go_9 (by decide) ?_
      exact J_retI dX9_go_11 rfl ⟨rfl, hX, Fr.rf⟩
theorem c_X9_go {h : PH} {p : Nat} {A : AS} {n : Int32} (hG : GR h.2.2) (hX : XI h p A) (hW : WF A) : CtI mX9_go h [pR (some 0), pI n] (fun v h' => v = goA A n ∧ XP h h' p (goS A n)) := by
  by_cases h1 : inR n 6
  · obtain ⟨n, hn, rfl⟩ := inR_of h1
    rw [goA, goS, if_pos h1, cl, nI_clamp (by omega)]
    by_cases h2 : aR A 0 0 = 1
    · rw [if_pos h2]
      by_cases h3 : aR A 0 2 + n ≤ aP A 0 0 0
      · rw [if_pos h3, if_pos ⟨h1, h2, h3⟩]
        exact c_X9_go_in hG hX hW hn h2 h3
      · rw [if_neg h3, if_neg (fun z => h3 z.2.2)]
        exact c_X9_go_far hG hX hW hn h2 h3
    · rw [if_neg h2, if_neg (fun z => h2 z.2.1)]
      exact c_X9_go_off hG hX hW hn h2
  · rw [goA, goS, if_neg h1, if_neg (fun z => h1 z.1)]
    exact c_X9_go_no hG hX hW h1
