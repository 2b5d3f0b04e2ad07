theorem c_X10_goOnce {h : PH} {A : AS} (hG : GR h.2.2) (hM : MI h A) (hW : WF A) (hon : aR A 0 0 = 1) : CtV mX10_goOnce h [pR (some 158)] (fun h' => MP h h' (stepA A)) := by
  have bN := hW.1
  have bk := hW.wk
  have bc := hW.cs
  have bw := hW.wn
  have bt := hW.tn
  have bf := hW.fn
  have bo : aR A 0 0 < 2 := hW.on (by decide)
  have bl : (aL A).1 < 2 := hW.2.2.2.2.1.1
  obtain ⟨hr1, hr2, hr3, hrs, hrw⟩ := (hW.rn (r := 0) (by decide)).2 hon
  have hGh := hG
  refine Ct.of (L := [some (pR (some 158)), none, none, none, none, none]) rfl rfl (Nat.le_of_ble_eq_true rfl) rfl ?_
  refine J_aload_n dX10_goOnce_0 rfl ?_
  refine J_getR (r := some 184) dX10_goOnce_1 fX10_95 s158 (fun _ => rfl) (g158_48 hG) ?_
  refine J_iconstN (n := 1) dX10_goOnce_4 ?_
  refine J_ialdN dX10_goOnce_5 s184 (by decide) (by omega) ?_
  refine J_cvI ((show h.1 184 1 = nI (aR A 0 1) from (hM.rn hon).1.1)) ?_
  refine J_istore_n (L' := [some (pR (some 158)), some (pI (nI (aR A 0 1))), none, none, none, none]) dX10_goOnce_6 (by decide) rfl ?_
  refine J_aload_n dX10_goOnce_7 rfl ?_
  refine J_bipush (x := nI 10) dX10_goOnce_8 (by decide) ?_
  refine J_cVI (ci := 10) (c := 158) (as := [pI (nI 10)]) (st := []) dX10_goOnce_10 lX10_382 okX10_draw vX10_draw s158 (by decide) rfl rfl rfl (Nat.le_of_ble_eq_true rfl) ⟨Nat.le_of_ble_eq_true rfl, Nat.le_of_ble_eq_true rfl⟩ CR.f (c_X10_draw hG (hM.rn hon).2 hrs) (fun v0 g0 e0 => ?_)
  obtain ⟨rfl, e0⟩ := e0
  have hG : GR g0.2.2 := by rw [e0]; exact hG
  have hdv := dv_lt (dr (aS A 0))
  have gs : ∀ k, k < 3 → g0.1 164 (4 * aR A 0 1 + 1 + k) = nI (aP A 1 (aR A 0 1) (k + 1)) := fun k hk => by rw [e0, show 4 * aR A 0 1 + 1 + k = 4 * aR A 0 1 + (k + 1) by omega]; exact hM.sg hr1 (by omega)
  have hu3 : sm (fun k => aP A 1 (aR A 0 1) (k + 1)) 3 = 10 := by show 0 + aP A 1 (aR A 0 1) 1 + aP A 1 (aR A 0 1) 2 + aP A 1 (aR A 0 1) 3 = 10; have := (hW.2.2.1.2.1 _ hr1).2; omega
  have us : ∀ k, sm (fun k => aP A 1 (aR A 0 1) (k + 1)) (k + 1) = sm (fun k => aP A 1 (aR A 0 1) (k + 1)) k + aP A 1 (aR A 0 1) (k + 1) := fun k => rfl
  refine J_istore_n (L' := [some (pR (some 158)), some (pI (nI (aR A 0 1))), some (pI (nI (dv (dr (aS A 0))))), none, none, none]) dX10_goOnce_13 (by decide) rfl ?_
  refine J_aload_n dX10_goOnce_14 rfl ?_
  refine J_getR (r := some 184) dX10_goOnce_15 fX10_95 s158 (fun _ => rfl) (g158_48 hG) ?_
  refine J_iconstN (n := 3) dX10_goOnce_18 ?_
  refine J_iconstN (n := 0) dX10_goOnce_19 ?_
  refine J_iastN dX10_goOnce_20 s184 (by decide) (by omega) ?_
  refine J_L (L' := [some (pR (some 158)), some (pI (nI (aR A 0 1))), some (pI (nI (dv (dr (aS A 0)) - sm (fun k => aP A 1 (aR A 0 1) (k + 1)) 0))), none, none, none]) rfl ?_
  refine J_forI (α := Unit) (L := fun i44 aa44 => [some (pR (some 158)), some (pI (nI (aR A 0 1))), some (pI (nI (dv (dr (aS A 0)) - sm (fun k => aP A 1 (aR A 0 1) (k + 1)) i44))), none, none, none]) (fun i44 aa44 h44 => h44 = sI g0 184 3 (nI i44) ∧ sm (fun k => aP A 1 (aR A 0 1) (k + 1)) i44 ≤ dv (dr (aS A 0))) (e := 3) (fun aa44 h44 hI44 => absurd hI44.2 (by omega)) (fun i44 aa44 h44 hi44 hI44 ih44 => ?_) 0 () _ (by omega) (⟨rfl, Nat.zero_le _⟩)
  show J _ _ _ _ _ [some (pR (some 158)), some (pI (nI (aR A 0 1))), some (pI (nI (dv (dr (aS A 0)) - sm (fun k => aP A 1 (aR A 0 1) (k + 1)) i44))), none, none, none] _ _ h44
  obtain ⟨hI6, hI7⟩ := hI44
  subst hI6
  have ub := hW.sg hr1 (k := i44 + 1) (by omega)
  have us1 := us i44
  refine J_iload_n dX10_goOnce_21 rfl ?_
  refine J_aload_n dX10_goOnce_22 rfl ?_
  refine J_getR (r := some 164) dX10_goOnce_23 fX10_31 s158 (fun _ => rfl) ((xRI).trans (g158_16 hG)) ?_
  refine J_iconstN (n := 4) dX10_goOnce_26 ?_
  refine J_iload_n dX10_goOnce_27 rfl ?_
  refine J_imulN dX10_goOnce_28 ?_
  refine J_iconstN (n := 1) dX10_goOnce_29 ?_
  refine J_iaddN dX10_goOnce_30 ?_
  refine J_aload_n dX10_goOnce_31 rfl ?_
  refine J_getR (r := some 184) dX10_goOnce_32 fX10_95 s158 (fun _ => rfl) ((xRI).trans (g158_48 hG)) ?_
  refine J_iconstN (n := 3) dX10_goOnce_35 ?_
  refine J_ialdN dX10_goOnce_36 s184 (by decide) (by omega) ?_
  refine J_cvI (rI_s) ?_
  refine J_iaddN dX10_goOnce_37 ?_
  refine J_ialdN dX10_goOnce_38 s164 (by decide) (by omega) ?_
  refine J_cvI ((rI_c (by decide)).trans ((gs i44 (by omega)))) ?_
  refine J_icmp_ltN dX10_goOnce_39 (by omega) (by omega) (fun c1 => ?_) (fun c1 => ?_)
  · refine J_iconstN (n := 0) dX10_goOnce_75 ?_
    refine J_istore_n (L' := [some (pR (some 158)), some (pI (nI (aR A 0 1))), some (pI (nI (dv (dr (aS A 0)) - sm (fun k => aP A 1 (aR A 0 1) (k + 1)) i44))), some (pI (nI 0)), none, none]) dX10_goOnce_76 (by decide) rfl ?_
    refine J_drop (L' := [some (pR (some 158)), some (pI (nI (aR A 0 1))), none, some (pI (nI 0)), none, none]) 2 rfl ?_
    refine J_L (L' := [some (pR (some 158)), some (pI (nI (aR A 0 1))), none, some (pI (nI 0)), none, none]) rfl ?_
    generalize hg : sI g0 184 3 (nI i44) = g
    have gF : FRm 0 h g := by rw [← hg, e0]; exact FRm.s.tr (FRm.w (by decide) (by decide))
    have gi : ∀ k, k ≠ 3 → g.1 184 k = h.1 184 k := fun k hk => by rw [← hg, e0]; exact (rI_k hk).trans xIL
    have hfs : fk (fun k => aP A 1 (aR A 0 1) (k + 1)) (dv (dr (aS A 0))) 2 = i44 := fk_at hI7 2 (by omega) (fun _ => by omega)
    have g3 : g.1 184 3 = nI (fk (fun k => aP A 1 (aR A 0 1) (k + 1)) (dv (dr (aS A 0))) 2) := by rw [← hg, hfs]; exact rI_s
    have g5 : g.2.1 185 0 = lN (dr (aS A 0)) := by rw [← hg, e0]; exact xLI.trans rL_s
    have hr0 := (hM.rn hon).1
    refine J_forI (α := Unit) (L := fun i1 aa1 => [some (pR (some 158)), some (pI (nI (aR A 0 1))), none, some (pI (nI i1)), none, none]) (fun i1 aa1 h1 => (∀ t, t < aP A 0 3 0 → (∀ k, k < 6 → h1.1 184 (8 + 4 * k + t) = rwV k ((stW A i1).1 k t)) ∧ h1.1 184 (4 + t) = nI ((stW A i1).1 6 t)) ∧ h1.2.1 185 0 = lN (stW A i1).2 ∧ (∀ j, j < 4 → h1.1 184 j = g.1 184 j) ∧ FRm 0 h h1) (e := aP A 0 3 0) (fun aa1 h1 hI1 => ?_) (fun i1 aa1 h1 hi1 hI1 ih1 => ?_) 0 (()) _ (by omega) (⟨fun t ht => ⟨fun k hk => (gi _ (by omega)).trans (by have z := (hr0.2.2.2 t ht).1 k hk; rw [Nat.zero_add] at z; exact z), (gi _ (by omega)).trans (by have z := (hr0.2.2.2 t ht).2; rw [Nat.zero_add] at z; exact z)⟩, g5, fun _ _ => rfl, gF⟩)
    · show J _ _ _ _ _ [some (pR (some 158)), some (pI (nI (aR A 0 1))), none, some (pI (nI (aP A 0 3 0))), none, none] _ _ h1
      obtain ⟨hI2, hI3, hI4, hI5⟩ := hI1
      have hG : GR h1.2.2 := hI5.g hGh
      have fi : ∀ {c k : Nat}, c < 173 → c ≠ 158 → h1.1 c k = h.1 c k := fun x1 x2 => hI5.i x2 (by omega) (by omega) (by omega) (Or.inl x1)
      refine J_iload_n dX10_goOnce_77 rfl ?_
      refine J_aload_n dX10_goOnce_78 rfl ?_
      refine J_getR (r := some 160) dX10_goOnce_79 fX10_17 s158 (fun _ => rfl) (g158_12 hG) ?_
      refine J_iconstN (n := 3) dX10_goOnce_82 ?_
      refine J_ialdN dX10_goOnce_83 s160 (by decide) (by omega) ?_
      refine J_cvI (((fi (by decide) (by decide)).trans (hM.nm (k := 3) (by decide)))) ?_
      refine J_icmp_geN dX10_goOnce_84 (by omega) (by omega) (fun c2 => ?_) (fun c2 => ?_)
      · refine J_aload_n dX10_goOnce_241 rfl ?_
        refine J_getR (r := some 184) dX10_goOnce_242 fX10_95 s158 (fun _ => rfl) (g158_48 hG) ?_
        refine J_iconstN (n := 2) dX10_goOnce_245 ?_
        refine J_dup2 dX10_goOnce_246 rfl rfl ?_
        refine J_ialdN dX10_goOnce_247 s184 (by decide) (by omega) ?_
        refine J_cvI (((hI4 2 (by decide)).trans ((gi 2 (by decide)).trans hr0.2.1))) ?_
        refine J_iconstN (n := 1) dX10_goOnce_248 ?_
        refine J_iaddN dX10_goOnce_249 ?_
        refine J_iastN dX10_goOnce_250 s184 (by decide) (by omega) ?_
        have FF : FRm 0 h (sI h1 184 2 (nI (aR A 0 2 + 1))) := hI5.tr (FRm.w (by decide) (by decide))
        exact J_retV dX10_goOnce_251 rfl ⟨MI.run hM bt (r0 := 0) (R := gR (aP A) (aR A 0) (aS A 0)) (W := (stW A (aP A 0 3 0)).1) (s := (stW A (aP A 0 3 0)).2) FF (fun _ => ⟨⟨(rI_k (by decide)).trans ((hI4 1 (by decide)).trans ((gi 1 (by decide)).trans hr0.1)), rI_s, (rI_k (by decide)).trans ((hI4 3 (by decide)).trans g3), fun t ht => ⟨fun i hi => (rI_k (by omega)).trans (by have z := (hI2 t ht).1 i hi; rw [Nat.mul_zero, Nat.zero_add]; exact z), (rI_k (by omega)).trans (by have z := (hI2 t ht).2; rw [Nat.mul_zero, Nat.zero_add]; exact z)⟩⟩, xLI.trans hI3, (rI_k (by decide)).trans ((hI4 0 (by decide)).trans ((gi 0 (by decide)).trans (hM.2.2.2.2.2.1.1.trans (by rw [hon]))))⟩) (fun _ => (rI_k (by decide)).trans ((hI4 0 (by decide)).trans ((gi 0 (by decide)).trans hM.2.2.2.2.2.1.1))) (fun k hk => absurd hk (by omega)), FF.fr⟩
      · exact (show False by omega).elim
    · show J _ _ _ _ _ [some (pR (some 158)), some (pI (nI (aR A 0 1))), none, some (pI (nI i1)), none, none] _ _ h1
      obtain ⟨hI2, hI3, hI4, hI5⟩ := hI1
      have hG : GR h1.2.2 := hI5.g hGh
      have fi : ∀ {c k : Nat}, c < 173 → c ≠ 158 → h1.1 c k = h.1 c k := fun x1 x2 => hI5.i x2 (by omega) (by omega) (by omega) (Or.inl x1)
      refine J_iload_n dX10_goOnce_77 rfl ?_
      refine J_aload_n dX10_goOnce_78 rfl ?_
      refine J_getR (r := some 160) dX10_goOnce_79 fX10_17 s158 (fun _ => rfl) (g158_12 hG) ?_
      refine J_iconstN (n := 3) dX10_goOnce_82 ?_
      refine J_ialdN dX10_goOnce_83 s160 (by decide) (by omega) ?_
      refine J_cvI (((fi (by decide) (by decide)).trans (hM.nm (k := 3) (by decide)))) ?_
      refine J_icmp_geN dX10_goOnce_84 (by omega) (by omega) (fun c3 => ?_) (fun c3 => ?_)
      · exact (show False by omega).elim
      · refine J_aload_n dX10_goOnce_87 rfl ?_
        refine J_bipush (x := nI 10) dX10_goOnce_88 (by decide) ?_
        refine J_cVI (ci := 10) (c := 158) (as := [pI (nI 10)]) (st := []) dX10_goOnce_90 lX10_382 okX10_draw vX10_draw s158 (by decide) rfl rfl rfl (Nat.le_of_ble_eq_true rfl) ⟨Nat.le_of_ble_eq_true rfl, Nat.le_of_ble_eq_true rfl⟩ CR.f (c_X10_draw hG hI3 (wkT_s (dr_lt _) i1)) (fun v2 g2 e2 => ?_)
        obtain ⟨rfl, e2⟩ := e2
        have hG : GR g2.2.2 := by rw [e2]; exact hG
        have hdv2 := dv_lt (dr (stW A i1).2)
        have F2 : FRm 0 h g2 := by rw [e2]; exact hI5.tr FRm.s
        have hu4 : sm (aP A 3 (4 * i1 + aR A 0 1)) 4 = 10 := by show 0 + aP A 3 (4 * i1 + aR A 0 1) 0 + aP A 3 (4 * i1 + aR A 0 1) 1 + aP A 3 (4 * i1 + aR A 0 1) 2 + aP A 3 (4 * i1 + aR A 0 1) 3 = 10; have z : aP A 3 (4 * i1 + aR A 0 1) 0 + aP A 3 (4 * i1 + aR A 0 1) 1 + aP A 3 (4 * i1 + aR A 0 1) 2 + aP A 3 (4 * i1 + aR A 0 1) 3 = 10 := hW.us hi1 (w := aR A 0 1) (by omega); omega
        have vs : ∀ k, sm (aP A 3 (4 * i1 + aR A 0 1)) (k + 1) = sm (aP A 3 (4 * i1 + aR A 0 1)) k + aP A 3 (4 * i1 + aR A 0 1) k := fun k => rfl
        refine J_istore (L' := [some (pR (some 158)), some (pI (nI (aR A 0 1))), none, some (pI (nI i1)), some (pI (nI (dv (dr (stW A i1).2)))), none]) dX10_goOnce_93 (by decide) rfl ?_
        refine J_iconstN (n := 0) dX10_goOnce_95 ?_
        refine J_istore (L' := [some (pR (some 158)), some (pI (nI (aR A 0 1))), none, some (pI (nI i1)), some (pI (nI (dv (dr (stW A i1).2)))), some (pI (nI 0))]) dX10_goOnce_96 (by decide) rfl ?_
        refine J_L (L' := [some (pR (some 158)), some (pI (nI (aR A 0 1))), none, some (pI (nI i1)), some (pI (nI (dv (dr (stW A i1).2) - sm (aP A 3 (4 * i1 + aR A 0 1)) 0))), some (pI (nI 0))]) rfl ?_
        have f2i : ∀ c, c < 173 → c ≠ 158 → g2.1 c = h.1 c := fun c x1 x2 => (F2.1 c x2 (by omega) (by omega) (by omega) (Or.inl x1)).1
        refine J_forI (α := Unit) (L := fun i22 aa22 => [some (pR (some 158)), some (pI (nI (aR A 0 1))), none, some (pI (nI i1)), some (pI (nI (dv (dr (stW A i1).2) - sm (aP A 3 (4 * i1 + aR A 0 1)) i22))), some (pI (nI i22))]) (fun i22 aa22 h22 => g2 = h22 ∧ sm (aP A 3 (4 * i1 + aR A 0 1)) i22 ≤ dv (dr (stW A i1).2)) (e := 4) (fun aa22 h22 hI22 => absurd hI22.2 (by omega)) (fun i22 aa22 h22 hi22 hI22 ih22 => ?_) 0 () _ (by omega) (⟨rfl, Nat.zero_le _⟩)
        show J _ _ _ _ _ [some (pR (some 158)), some (pI (nI (aR A 0 1))), none, some (pI (nI i1)), some (pI (nI (dv (dr (stW A i1).2) - sm (aP A 3 (4 * i1 + aR A 0 1)) i22))), some (pI (nI i22))] _ _ h22
        obtain ⟨hI6, hI7⟩ := hI22
        subst hI6
        have ub := hW.u hi1 (w := aR A 0 1) (n := i22) (by omega) (by omega)
        have vs1 := vs i22
        have h0 : (stW A i1).1 0 i1 ≤ 40 := by rw [wkT_hi i1 0 i1 (Nat.le_refl i1)]; exact (hW.x7 hon hi1).1
        refine J_iload dX10_goOnce_98 rfl ?_
        refine J_aload_n dX10_goOnce_100 rfl ?_
        refine J_iload_n dX10_goOnce_101 rfl ?_
        refine J_iload_n dX10_goOnce_102 rfl ?_
        refine J_iload dX10_goOnce_103 rfl ?_
        refine J_cVI (ci := 10) (c := 158) (as := [pI (nI i1), pI (nI (aR A 0 1)), pI (nI i22)]) (st := [pI (nI (dv (dr (stW A i1).2) - sm (aP A 3 (4 * i1 + aR A 0 1)) i22))]) dX10_goOnce_105 lX10_249 okX10_chance vX10_chance s158 (by decide) rfl rfl rfl (Nat.le_of_ble_eq_true rfl) ⟨Nat.le_of_ble_eq_true rfl, Nat.le_of_ble_eq_true rfl⟩ CR.f (c_X10_chance hG (by omega) (by omega) (by omega) ((congrFun (f2i 166 (by decide) (by decide)) _).trans (hM.w hi1 (by omega) (by omega)))) (fun vq4 gq4 eq4 => ?_)
        obtain ⟨rfl, fq4⟩ := eq4
        rw [fq4]
        refine J_icmp_ltN dX10_goOnce_108 (by omega) (by omega) (fun c5 => ?_) (fun c5 => ?_)
        · refine J_aload_n dX10_goOnce_130 rfl ?_
          refine J_iload_n dX10_goOnce_131 rfl ?_
          refine J_iload_n dX10_goOnce_132 rfl ?_
          refine J_aload_n dX10_goOnce_133 rfl ?_
          refine J_getR (r := some 184) dX10_goOnce_134 fX10_95 s158 (fun _ => rfl) (g158_48 hG) ?_
          refine J_bipush (x := nI 8) dX10_goOnce_137 (by decide) ?_
          refine J_iload_n dX10_goOnce_139 rfl ?_
          refine J_iaddN dX10_goOnce_140 ?_
          refine J_ialdN dX10_goOnce_141 s184 (by decide) (by omega) ?_
          refine J_cvI ((show g2.1 184 (8 + i1) = nI ((stW A i1).1 0 i1) from (by rw [e2]; exact (hI2 i1 hi1).1 0 (by decide)))) ?_
          refine J_iload dX10_goOnce_142 rfl ?_
          refine J_cVV (ci := 10) (c := 158) (as := [pI (nI i1), pI (nI (aR A 0 1)), pI (nI ((stW A i1).1 0 i1)), pI (nI i22)]) (st := []) dX10_goOnce_144 lX10_294 okX10_week vX10_week s158 (by decide) rfl rfl rfl (Nat.le_of_ble_eq_true rfl) ⟨Nat.le_of_ble_eq_true rfl, Nat.le_of_ble_eq_true rfl⟩ CR.f (c_X10_week hG (by omega) (by omega) ((hM.tma hW hi1).tm.o f2i) ((hM.wm hW hi1 (by omega)).o2 f2i) (by omega) (by omega)) (fun g3 e3 => ?_)
          obtain ⟨⟨w27, w28, w29, w30, w31⟩, fg⟩ := wk6 e3
          have hG := fg.g hG
          have F3 : FRm 0 h g3 := F2.tr (FRm.q (.of fg))
          have g3o : ∀ j, g3.1 184 j = h1.1 184 j := fun j => (fg.i (by decide) (by decide) (by decide) (by decide)).trans (by rw [e2]; exact xIL)
          have g3l : g3.2.1 185 0 = lN (dr (stW A i1).2) := (fg.l (by decide) (by decide) (by decide) (by decide)).trans (by rw [e2]; exact rL_s)
          have hfw : fk (aP A 3 (4 * i1 + aR A 0 1)) (dv (dr (stW A i1).2)) 3 = i22 := fk_at hI7 3 (by omega) (fun _ => by omega)
          refine J_aload_n dX10_goOnce_147 rfl ?_
          refine J_getR (r := some 184) dX10_goOnce_148 fX10_95 s158 (fun _ => rfl) (g158_48 hG) ?_
          refine J_bipush (x := nI 8) dX10_goOnce_151 (by decide) ?_
          refine J_iload_n dX10_goOnce_153 rfl ?_
          refine J_iaddN dX10_goOnce_154 ?_
          refine J_aload_n dX10_goOnce_155 rfl ?_
          refine J_getI dX10_goOnce_156 fX10_268 s158 (fun _ => rfl) ?_
          refine J_cvI (w31) ?_
          refine J_iastN dX10_goOnce_159 s184 (by decide) (by omega) ?_
          refine J_aload_n dX10_goOnce_160 rfl ?_
          refine J_getR (r := some 184) dX10_goOnce_161 fX10_95 s158 (fun _ => rfl) ((xRI).trans (g158_48 hG)) ?_
          refine J_bipush (x := nI 12) dX10_goOnce_164 (by decide) ?_
          refine J_iload_n dX10_goOnce_166 rfl ?_
          refine J_iaddN dX10_goOnce_167 ?_
          refine J_dup2 dX10_goOnce_168 rfl rfl ?_
          refine J_ialdN dX10_goOnce_169 s184 (by decide) (by omega) ?_
          refine J_cvI ((rI_k (by omega)).trans (((g3o (12 + i1)).trans (show h1.1 184 (12 + i1) = nI ((stW A i1).1 1 i1) from (hI2 i1 hi1).1 1 (by decide))))) ?_
          refine J_aload_n dX10_goOnce_170 rfl ?_
          refine J_getI dX10_goOnce_171 fX10_259 s158 (fun _ => rfl) ?_
          refine J_cvI ((rI_c (by decide)).trans (w27)) ?_
          refine J_iaddN dX10_goOnce_174 ?_
          refine J_iastN dX10_goOnce_175 s184 (by decide) (by omega) ?_
          refine J_aload_n dX10_goOnce_176 rfl ?_
          refine J_getR (r := some 184) dX10_goOnce_177 fX10_95 s158 (fun _ => rfl) ((xRI).trans ((xRI).trans (g158_48 hG))) ?_
          refine J_bipush (x := nI 16) dX10_goOnce_180 (by decide) ?_
          refine J_iload_n dX10_goOnce_182 rfl ?_
          refine J_iaddN dX10_goOnce_183 ?_
          refine J_dup2 dX10_goOnce_184 rfl rfl ?_
          refine J_ialdN dX10_goOnce_185 s184 (by decide) (by omega) ?_
          refine J_cvI ((rI_k (by omega)).trans ((rI_k (by omega)).trans (((g3o (16 + i1)).trans (show h1.1 184 (16 + i1) = nI ((stW A i1).1 2 i1) from (hI2 i1 hi1).1 2 (by decide)))))) ?_
          refine J_aload_n dX10_goOnce_186 rfl ?_
          refine J_getI dX10_goOnce_187 fX10_262 s158 (fun _ => rfl) ?_
          refine J_cvI ((rI_c (by decide)).trans ((rI_c (by decide)).trans (w28))) ?_
          refine J_iaddN dX10_goOnce_190 ?_
          refine J_iastN dX10_goOnce_191 s184 (by decide) (by omega) ?_
          refine J_aload_n dX10_goOnce_192 rfl ?_
          refine J_getR (r := some 184) dX10_goOnce_193 fX10_95 s158 (fun _ => rfl) ((xRI).trans ((xRI).trans ((xRI).trans (g158_48 hG)))) ?_
          refine J_bipush (x := nI 20) dX10_goOnce_196 (by decide) ?_
          refine J_iload_n dX10_goOnce_198 rfl ?_
          refine J_iaddN dX10_goOnce_199 ?_
          refine J_dup2 dX10_goOnce_200 rfl rfl ?_
          refine J_ialdN dX10_goOnce_201 s184 (by decide) (by omega) ?_
          refine J_cvI ((rI_k (by omega)).trans ((rI_k (by omega)).trans ((rI_k (by omega)).trans (((g3o (20 + i1)).trans (show h1.1 184 (20 + i1) = nI ((stW A i1).1 3 i1) from (hI2 i1 hi1).1 3 (by decide))))))) ?_
          refine J_aload_n dX10_goOnce_202 rfl ?_
          refine J_getI dX10_goOnce_203 fX10_265 s158 (fun _ => rfl) ?_
          refine J_cvI ((rI_c (by decide)).trans ((rI_c (by decide)).trans ((rI_c (by decide)).trans (w29)))) ?_
          refine J_iaddN dX10_goOnce_206 ?_
          refine J_iastN dX10_goOnce_207 s184 (by decide) (by omega) ?_
          refine J_aload_n dX10_goOnce_208 rfl ?_
          refine J_getR (r := some 184) dX10_goOnce_209 fX10_95 s158 (fun _ => rfl) ((xRI).trans ((xRI).trans ((xRI).trans ((xRI).trans (g158_48 hG))))) ?_
          refine J_bipush (x := nI 24) dX10_goOnce_212 (by decide) ?_
          refine J_iload_n dX10_goOnce_214 rfl ?_
          refine J_iaddN dX10_goOnce_215 ?_
          refine J_dup2 dX10_goOnce_216 rfl rfl ?_
          refine J_ialdN dX10_goOnce_217 s184 (by decide) (by omega) ?_
          refine J_cvI ((rI_k (by omega)).trans ((rI_k (by omega)).trans ((rI_k (by omega)).trans ((rI_k (by omega)).trans (((g3o (24 + i1)).trans (show h1.1 184 (24 + i1) = nI ((stW A i1).1 4 i1) from (hI2 i1 hi1).1 4 (by decide)))))))) ?_
          refine J_aload_n dX10_goOnce_218 rfl ?_
          refine J_getI dX10_goOnce_219 fX10_278 s158 (fun _ => rfl) ?_
          refine J_cvI ((rI_c (by decide)).trans ((rI_c (by decide)).trans ((rI_c (by decide)).trans ((rI_c (by decide)).trans (w30))))) ?_
          refine J_iaddN dX10_goOnce_222 ?_
          refine J_iastN dX10_goOnce_223 s184 (by decide) (by omega) ?_
          refine J_aload_n dX10_goOnce_224 rfl ?_
          refine J_getR (r := some 184) dX10_goOnce_225 fX10_95 s158 (fun _ => rfl) ((xRI).trans ((xRI).trans ((xRI).trans ((xRI).trans ((xRI).trans (g158_48 hG)))))) ?_
          refine J_bipush (x := nI 28) dX10_goOnce_228 (by decide) ?_
          refine J_iload_n dX10_goOnce_230 rfl ?_
          refine J_iaddN dX10_goOnce_231 ?_
          refine J_iload dX10_goOnce_232 rfl ?_
          refine J_iastN dX10_goOnce_234 s184 (by decide) (by omega) ?_
          refine J_iincN (n := 1) (L' := [some (pR (some 158)), some (pI (nI (aR A 0 1))), none, some (pI (nI (i1 + 1))), some (pI (nI (dv (dr (stW A i1).2) - sm (aP A 3 (4 * i1 + aR A 0 1)) i22))), some (pI (nI i22))]) dX10_goOnce_235 rfl (by decide) rfl ?_
          refine J_goto dX10_goOnce_238 ?_
          refine J_drop (L' := [some (pR (some 158)), some (pI (nI (aR A 0 1))), none, some (pI (nI (i1 + 1))), none, some (pI (nI i22))]) 4 rfl ?_
          refine J_drop (L' := [some (pR (some 158)), some (pI (nI (aR A 0 1))), none, some (pI (nI (i1 + 1))), none, none]) 5 rfl ?_
          generalize hb : sI (sI (sI (sI (sI (sI (g3) 184 (8 + i1) (nI (nxN (aU A i1 0) (aU A i1 1) (aP A 2 i1 5) (aP A 3 (4 * i1 + aR A 0 1) 4) ((stW A i1).1 0 i1) i22))) 184 (12 + i1) (nI ((stW A i1).1 1 i1 + gvN (aU A i1 0) (aU A i1 1) ((stW A i1).1 0 i1) i22 (aP A 3 (4 * i1 + aR A 0 1) 4)))) 184 (16 + i1) (nI ((stW A i1).1 2 i1 + lkN ((stW A i1).1 0 i1) i22 (aP A 3 (4 * i1 + aR A 0 1) 4)))) 184 (20 + i1) (nI ((stW A i1).1 3 i1 + msN (aU A i1 0) (aU A i1 1) ((stW A i1).1 0 i1) i22 (aP A 3 (4 * i1 + aR A 0 1) 4)))) 184 (24 + i1) (nI ((stW A i1).1 4 i1 + slN (aP A 2 i1 5) (rsN (aU A i1 0) (aU A i1 1) ((stW A i1).1 0 i1) i22 (aP A 3 (4 * i1 + aR A 0 1) 4))))) 184 (28 + i1) (nI i22) = gb
          have b0 : gb.1 184 (8 + i1) = nI (nxN (aU A i1 0) (aU A i1 1) (aP A 2 i1 5) (aP A 3 (4 * i1 + aR A 0 1) 4) ((stW A i1).1 0 i1) i22) := by rw [← hb]; exact (rI_k (by omega)).trans ((rI_k (by omega)).trans ((rI_k (by omega)).trans ((rI_k (by omega)).trans ((rI_k (by omega)).trans (rI_s)))))
          have b1 : gb.1 184 (12 + i1) = nI ((stW A i1).1 1 i1 + gvN (aU A i1 0) (aU A i1 1) ((stW A i1).1 0 i1) i22 (aP A 3 (4 * i1 + aR A 0 1) 4)) := by rw [← hb]; exact (rI_k (by omega)).trans ((rI_k (by omega)).trans ((rI_k (by omega)).trans ((rI_k (by omega)).trans (rI_s))))
          have b2 : gb.1 184 (16 + i1) = nI ((stW A i1).1 2 i1 + lkN ((stW A i1).1 0 i1) i22 (aP A 3 (4 * i1 + aR A 0 1) 4)) := by rw [← hb]; exact (rI_k (by omega)).trans ((rI_k (by omega)).trans ((rI_k (by omega)).trans (rI_s)))
          have b3 : gb.1 184 (20 + i1) = nI ((stW A i1).1 3 i1 + msN (aU A i1 0) (aU A i1 1) ((stW A i1).1 0 i1) i22 (aP A 3 (4 * i1 + aR A 0 1) 4)) := by rw [← hb]; exact (rI_k (by omega)).trans ((rI_k (by omega)).trans (rI_s))
          have b4 : gb.1 184 (24 + i1) = nI ((stW A i1).1 4 i1 + slN (aP A 2 i1 5) (rsN (aU A i1 0) (aU A i1 1) ((stW A i1).1 0 i1) i22 (aP A 3 (4 * i1 + aR A 0 1) 4))) := by rw [← hb]; exact (rI_k (by omega)).trans (rI_s)
          have b5 : gb.1 184 (28 + i1) = nI i22 := by rw [← hb]; exact rI_s
          have bo : ∀ j, j ≠ 8 + i1 → j ≠ 12 + i1 → j ≠ 16 + i1 → j ≠ 20 + i1 → j ≠ 24 + i1 → j ≠ 28 + i1 → gb.1 184 j = g3.1 184 j := fun j x0 x1 x2 x3 x4 x5 => by rw [← hb]; exact (rI_k x5).trans ((rI_k x4).trans ((rI_k x3).trans ((rI_k x2).trans ((rI_k x1).trans (rI_k x0)))))
          have FB : FRm 0 h gb := F3.tr (by rw [← hb]; exact (((((FRm.w (by omega) (by omega)).tr (FRm.w (by omega) (by omega))).tr (FRm.w (by omega) (by omega))).tr (FRm.w (by omega) (by omega))).tr (FRm.w (by omega) (by omega))).tr (FRm.w (by omega) (by omega)))
          have bl : gb.2.1 185 0 = lN (dr (stW A i1).2) := by rw [← hb]; exact g3l
          have hT4 : ∀ {t : Nat}, t < aP A 0 3 0 → t < 4 := fun ht => Nat.lt_of_lt_of_le ht bt
          have e6 : ∀ k, (stW A (i1 + 1)).1 k i1 = tW (aU A i1 0) (aU A i1 1) (aP A 2 i1 5) (aP A 3 (4 * i1 + aR A 0 1) 4) (fun k => (stW A i1).1 k i1) i22 k := fun k => by rw [← hfw]; exact if_pos rfl
          have e7 : ∀ k t, t ≠ i1 → (stW A (i1 + 1)).1 k t = (stW A i1).1 k t := fun k t ht => if_neg ht
          refine ih1 () _ ⟨fun t ht => ⟨fun i hi => ?_, ?_⟩, bl, fun j hj => (bo j (by omega) (by omega) (by omega) (by omega) (by omega) (by omega)).trans ((g3o j).trans (hI4 j hj)), FB⟩
          · have ht4 := hT4 ht
            by_cases q : t = i1
            · subst q
              rw [e6]
              rcases (show i = 0 ∨ i = 1 ∨ i = 2 ∨ i = 3 ∨ i = 4 ∨ i = 5 by omega) with rfl | rfl | rfl | rfl | rfl | rfl
              · exact b0
              · exact b1
              · exact b2
              · exact b3
              · exact b4
              · exact b5
            · rw [e7 i t q]
              exact (bo _ (by omega) (by omega) (by omega) (by omega) (by omega) (by omega)).trans ((g3o _).trans ((hI2 t ht).1 i hi))
          · have ht4 := hT4 ht
            refine (bo _ (by omega) (by omega) (by omega) (by omega) (by omega) (by omega)).trans ((g3o _).trans ((hI2 t ht).2.trans ?_))
            by_cases q : t = i1
            · subst q
              rw [e6]
              rfl
            · rw [e7 6 t q]
        · refine J_iload dX10_goOnce_111 rfl ?_
          refine J_aload_n dX10_goOnce_113 rfl ?_
          refine J_iload_n dX10_goOnce_114 rfl ?_
          refine J_iload_n dX10_goOnce_115 rfl ?_
          refine J_iload dX10_goOnce_116 rfl ?_
          refine J_cVI (ci := 10) (c := 158) (as := [pI (nI i1), pI (nI (aR A 0 1)), pI (nI i22)]) (st := [pI (nI (dv (dr (stW A i1).2) - sm (aP A 3 (4 * i1 + aR A 0 1)) i22))]) dX10_goOnce_118 lX10_249 okX10_chance vX10_chance s158 (by decide) rfl rfl rfl (Nat.le_of_ble_eq_true rfl) ⟨Nat.le_of_ble_eq_true rfl, Nat.le_of_ble_eq_true rfl⟩ CR.f (c_X10_chance hG (by omega) (by omega) (by omega) ((congrFun (f2i 166 (by decide) (by decide)) _).trans (hM.w hi1 (by omega) (by omega)))) (fun vq6 gq6 eq6 => ?_)
          obtain ⟨rfl, fq6⟩ := eq6
          rw [fq6]
          refine J_isubN dX10_goOnce_121 (by omega) ?_
          refine J_istore (L' := [some (pR (some 158)), some (pI (nI (aR A 0 1))), none, some (pI (nI i1)), some (pI (nI (dv (dr (stW A i1).2) - sm (aP A 3 (4 * i1 + aR A 0 1)) i22 - aP A 3 (4 * i1 + aR A 0 1) i22))), some (pI (nI i22))]) dX10_goOnce_122 (by decide) rfl ?_
          refine J_iincN (n := 1) (L' := [some (pR (some 158)), some (pI (nI (aR A 0 1))), none, some (pI (nI i1)), some (pI (nI (dv (dr (stW A i1).2) - sm (aP A 3 (4 * i1 + aR A 0 1)) i22 - aP A 3 (4 * i1 + aR A 0 1) i22))), some (pI (nI (i22 + 1)))]) dX10_goOnce_124 rfl (by decide) rfl ?_
          refine J_goto dX10_goOnce_127 ?_
          have K := ih22 () _ ⟨rfl, by omega⟩
          rw [show dv (dr (stW A i1).2) - sm (aP A 3 (4 * i1 + aR A 0 1)) (i22 + 1) = dv (dr (stW A i1).2) - sm (aP A 3 (4 * i1 + aR A 0 1)) i22 - aP A 3 (4 * i1 + aR A 0 1) i22 by omega] at K
          exact K
  · refine J_iload_n dX10_goOnce_42 rfl ?_
    refine J_aload_n dX10_goOnce_43 rfl ?_
    refine J_getR (r := some 164) dX10_goOnce_44 fX10_31 s158 (fun _ => rfl) ((xRI).trans (g158_16 hG)) ?_
    refine J_iconstN (n := 4) dX10_goOnce_47 ?_
    refine J_iload_n dX10_goOnce_48 rfl ?_
    refine J_imulN dX10_goOnce_49 ?_
    refine J_iconstN (n := 1) dX10_goOnce_50 ?_
    refine J_iaddN dX10_goOnce_51 ?_
    refine J_aload_n dX10_goOnce_52 rfl ?_
    refine J_getR (r := some 184) dX10_goOnce_53 fX10_95 s158 (fun _ => rfl) ((xRI).trans (g158_48 hG)) ?_
    refine J_iconstN (n := 3) dX10_goOnce_56 ?_
    refine J_ialdN dX10_goOnce_57 s184 (by decide) (by omega) ?_
    refine J_cvI (rI_s) ?_
    refine J_iaddN dX10_goOnce_58 ?_
    refine J_ialdN dX10_goOnce_59 s164 (by decide) (by omega) ?_
    refine J_cvI ((rI_c (by decide)).trans ((gs i44 (by omega)))) ?_
    refine J_isubN dX10_goOnce_60 (by omega) ?_
    refine J_istore_n (L' := [some (pR (some 158)), some (pI (nI (aR A 0 1))), some (pI (nI (dv (dr (aS A 0)) - sm (fun k => aP A 1 (aR A 0 1) (k + 1)) i44 - aP A 1 (aR A 0 1) (i44 + 1)))), none, none, none]) dX10_goOnce_61 (by decide) rfl ?_
    refine J_aload_n dX10_goOnce_62 rfl ?_
    refine J_getR (r := some 184) dX10_goOnce_63 fX10_95 s158 (fun _ => rfl) ((xRI).trans (g158_48 hG)) ?_
    refine J_iconstN (n := 3) dX10_goOnce_66 ?_
    refine J_dup2 dX10_goOnce_67 rfl rfl ?_
    refine J_ialdN dX10_goOnce_68 s184 (by decide) (by omega) ?_
    refine J_cvI (rI_s) ?_
    refine J_iconstN (n := 1) dX10_goOnce_69 ?_
    refine J_iaddN dX10_goOnce_70 ?_
    refine J_iastN dX10_goOnce_71 s184 (by decide) (by omega) ?_
    refine J_goto dX10_goOnce_72 ?_
    have K := ih44 () _ ⟨sI_sI (x := nI i44), by omega⟩
    rw [show dv (dr (aS A 0)) - sm (fun k => aP A 1 (aR A 0 1) (k + 1)) (i44 + 1) = dv (dr (aS A 0)) - sm (fun k => aP A 1 (aR A 0 1) (k + 1)) i44 - aP A 1 (aR A 0 1) (i44 + 1) by omega] at K
    exact K
theorem c_X10_go_in {h : PH} {A : AS} {n : Nat} (hG : GR h.2.2) (hM : MI h A) (hW : WF A) (hn : n < 6) (hon : aR A 0 0 = 1) (hk : aR A 0 2 + n ≤ aP A 0 0 0) : CtI mX10_go h [pR (some 158), pI (nI n)] (fun v h' => v = nI (aR A 0 2 + n) ∧ MP h h' (goN A n)) := by
  have bN := hW.1
  have bk := hW.wk
  have bc := hW.cs
  have bw := hW.wn
  have bt := hW.tn
  have bf := hW.fn
  have bo : aR A 0 0 < 2 := hW.on (by decide)
  have bl : (aL A).1 < 2 := hW.2.2.2.2.1.1
  obtain ⟨hr1, hr2, hr3, hrs, hrw⟩ := (hW.rn (r := 0) (by decide)).2 hon
  have hG0 := hG
  refine Ct.of (L := [some (pR (some 158)), some (pI (nI n)), none]) rfl rfl (Nat.le_of_ble_eq_true rfl) rfl ?_
  refine J_iload_n dX10_go_0 rfl ?_
  refine J_iconstN (n := 0) dX10_go_1 ?_
  refine J_iconstN (n := 5) dX10_go_2 ?_
  refine J_cSI (as := [pI (nI n), pI (nI 0), pI (nI 5)]) (st := []) dX10_go_3 lX10_172 okX10_in sX10_in rfl rfl (Nat.le_of_ble_eq_true rfl) ⟨Nat.le_of_ble_eq_true rfl, Nat.le_of_ble_eq_true rfl⟩ CR.f (c_X10_in) (fun vq1 gq1 eq1 => ?_)
  obtain ⟨rfl, fq1⟩ := eq1
  rw [fq1]
  refine J_cvI (bI_congr (inN (by omega) (by omega) (by omega))) ?_
  refine J_if_neB dX10_go_6 (fun c2 => ?_) (fun c2 => ?_)
  · refine J_aload_n dX10_go_12 rfl ?_
    refine J_getR (r := some 184) dX10_go_13 fX10_95 s158 (fun _ => rfl) (g158_48 hG) ?_
    refine J_iconstN (n := 0) dX10_go_16 ?_
    refine J_ialdN dX10_go_17 s184 (by decide) (by omega) ?_
    refine J_cvI (hM.2.2.2.2.2.1.1) ?_
    refine J_if_neN dX10_go_18 (by omega) (fun c3 => ?_) (fun c3 => ?_)
    · refine J_aload_n dX10_go_24 rfl ?_
      refine J_getR (r := some 184) dX10_go_25 fX10_95 s158 (fun _ => rfl) (g158_48 hG) ?_
      refine J_iconstN (n := 2) dX10_go_28 ?_
      refine J_ialdN dX10_go_29 s184 (by decide) (by omega) ?_
      refine J_cvI ((show h.1 184 2 = nI (aR A 0 2) from (hM.rn hon).1.2.1)) ?_
      refine J_iload_n dX10_go_30 rfl ?_
      refine J_iaddN dX10_go_31 ?_
      refine J_aload_n dX10_go_32 rfl ?_
      refine J_getR (r := some 160) dX10_go_33 fX10_17 s158 (fun _ => rfl) (g158_12 hG) ?_
      refine J_iconstN (n := 0) dX10_go_36 ?_
      refine J_ialdN dX10_go_37 s160 (by decide) (by omega) ?_
      refine J_cvI ((hM.nm (k := 0) (by decide))) ?_
      refine J_icmp_leN dX10_go_38 (by omega) (by omega) (fun c4 => ?_) (fun c4 => ?_)
      · refine J_iconstN (n := 0) dX10_go_44 ?_
        refine J_istore_n (L' := [some (pR (some 158)), some (pI (nI n)), some (pI (nI 0))]) dX10_go_45 (by decide) rfl ?_
        refine J_L (L' := [some (pR (some 158)), some (pI (nI n)), some (pI (nI 0))]) rfl ?_
        refine J_forI (α := Unit) (L := fun i1 aa1 => [some (pR (some 158)), some (pI (nI n)), some (pI (nI i1))]) (fun i1 aa1 h1 => MI h1 (goN A i1) ∧ Fr 158 186 h h1) (e := n) (fun aa1 h1 hI1 => ?_) (fun i1 aa1 h1 hi1 hI1 ih1 => ?_) 0 (()) _ (by omega) (⟨hM, Fr.rf⟩)
        · show J _ _ _ _ _ [some (pR (some 158)), some (pI (nI n)), some (pI (nI n))] _ _ h1
          obtain ⟨hI2, hI3⟩ := hI1
          have hG := hI3.g hG0
          refine J_iload_n dX10_go_46 rfl ?_
          refine J_iload_n dX10_go_47 rfl ?_
          refine J_icmp_geN dX10_go_48 (by omega) (by omega) (fun c5 => ?_) (fun c5 => ?_)
          · refine J_aload_n dX10_go_61 rfl ?_
            refine J_getR (r := some 184) dX10_go_62 fX10_95 s158 (fun _ => rfl) (g158_48 hG) ?_
            refine J_iconstN (n := 2) dX10_go_65 ?_
            refine J_ialdN dX10_go_66 s184 (by decide) (by omega) ?_
            refine J_cvI ((show h1.1 184 2 = nI (aR A 0 2 + n) from ((hI2.rn (goN_on hon n)).1.2.1.trans (by rw [goN_2])))) ?_
            exact J_retI dX10_go_67 rfl ⟨rfl, hI2, hI3⟩
          · exact (show False by omega).elim
        · show J _ _ _ _ _ [some (pR (some 158)), some (pI (nI n)), some (pI (nI i1))] _ _ h1
          obtain ⟨hI2, hI3⟩ := hI1
          have hG := hI3.g hG0
          refine J_iload_n dX10_go_46 rfl ?_
          refine J_iload_n dX10_go_47 rfl ?_
          refine J_icmp_geN dX10_go_48 (by omega) (by omega) (fun c6 => ?_) (fun c6 => ?_)
          · exact (show False by omega).elim
          · refine J_aload_n dX10_go_51 rfl ?_
            refine J_cVV (ci := 10) (c := 158) (as := []) (st := []) dX10_go_52 lX10_385 okX10_goOnce vX10_goOnce s158 (by decide) rfl rfl rfl (Nat.le_of_ble_eq_true rfl) ⟨Nat.le_of_ble_eq_true rfl, Nat.le_of_ble_eq_true rfl⟩ CR.f (c_X10_goOnce hG hI2 (hW.goN hon i1 (by omega)) (goN_on hon i1)) (fun g1 e1 => ?_)
            refine J_iincN (n := 1) (L' := [some (pR (some 158)), some (pI (nI n)), some (pI (nI (i1 + 1)))]) dX10_go_55 rfl (by decide) rfl ?_
            refine J_goto dX10_go_58 ?_
            exact ih1 () _ ⟨e1.1, hI3.tr e1.2⟩
      · exact (show False by omega).elim
    · exact (show False by omega).elim
  · exact (show False by omega).elim
theorem c_X10_go_far {h : PH} {A : AS} {n : Nat} (hG : GR h.2.2) (hM : MI h A) (hW : WF A) (hn : n < 6) (hon : aR A 0 0 = 1) (hk : ¬ aR A 0 2 + n ≤ aP A 0 0 0) : CtI mX10_go h [pR (some 158), pI (nI n)] (fun v h' => v = -2 ∧ MP h h' A) := by
  have bN := hW.1
  have bk := hW.wk
  have bc := hW.cs
  have bw := hW.wn
  have bt := hW.tn
  have bf := hW.fn
  have bo : aR A 0 0 < 2 := hW.on (by decide)
  have bl : (aL A).1 < 2 := hW.2.2.2.2.1.1
  obtain ⟨hr1, hr2, hr3, hrs, hrw⟩ := (hW.rn (r := 0) (by decide)).2 hon
  refine Ct.of (L := [some (pR (some 158)), some (pI (nI n)), none]) rfl rfl (Nat.le_of_ble_eq_true rfl) rfl ?_
  refine J_iload_n dX10_go_0 rfl ?_
  refine J_iconstN (n := 0) dX10_go_1 ?_
  refine J_iconstN (n := 5) dX10_go_2 ?_
  refine J_cSI (as := [pI (nI n), pI (nI 0), pI (nI 5)]) (st := []) dX10_go_3 lX10_172 okX10_in sX10_in rfl rfl (Nat.le_of_ble_eq_true rfl) ⟨Nat.le_of_ble_eq_true rfl, Nat.le_of_ble_eq_true rfl⟩ CR.f (c_X10_in) (fun vq1 gq1 eq1 => ?_)
  obtain ⟨rfl, fq1⟩ := eq1
  rw [fq1]
  refine J_cvI (bI_congr (inN (by omega) (by omega) (by omega))) ?_
  refine J_if_neB dX10_go_6 (fun c2 => ?_) (fun c2 => ?_)
  · refine J_aload_n dX10_go_12 rfl ?_
    refine J_getR (r := some 184) dX10_go_13 fX10_95 s158 (fun _ => rfl) (g158_48 hG) ?_
    refine J_iconstN (n := 0) dX10_go_16 ?_
    refine J_ialdN dX10_go_17 s184 (by decide) (by omega) ?_
    refine J_cvI (hM.2.2.2.2.2.1.1) ?_
    refine J_if_neN dX10_go_18 (by omega) (fun c3 => ?_) (fun c3 => ?_)
    · refine J_aload_n dX10_go_24 rfl ?_
      refine J_getR (r := some 184) dX10_go_25 fX10_95 s158 (fun _ => rfl) (g158_48 hG) ?_
      refine J_iconstN (n := 2) dX10_go_28 ?_
      refine J_ialdN dX10_go_29 s184 (by decide) (by omega) ?_
      refine J_cvI ((show h.1 184 2 = nI (aR A 0 2) from (hM.rn hon).1.2.1)) ?_
      refine J_iload_n dX10_go_30 rfl ?_
      refine J_iaddN dX10_go_31 ?_
      refine J_aload_n dX10_go_32 rfl ?_
      refine J_getR (r := some 160) dX10_go_33 fX10_17 s158 (fun _ => rfl) (g158_12 hG) ?_
      refine J_iconstN (n := 0) dX10_go_36 ?_
      refine J_ialdN dX10_go_37 s160 (by decide) (by omega) ?_
      refine J_cvI ((hM.nm (k := 0) (by decide))) ?_
      refine J_icmp_leN dX10_go_38 (by omega) (by omega) (fun c4 => ?_) (fun c4 => ?_)
      · exact (show False by omega).elim
      · refine J_bipush (x := (-2)) dX10_go_41 (by decide) ?_
        exact J_retI dX10_go_43 rfl ⟨rfl, hM, Fr.rf⟩
    · exact (show False by omega).elim
  · exact (show False by omega).elim
theorem c_X10_go_off {h : PH} {A : AS} {n : Nat} (hG : GR h.2.2) (hM : MI h A) (hW : WF A) (hn : n < 6) (hof : ¬ aR A 0 0 = 1) : CtI mX10_go h [pR (some 158), pI (nI n)] (fun v h' => v = -4 ∧ MP h h' A) := by
  have bN := hW.1
  have bk := hW.wk
  have bc := hW.cs
  have bw := hW.wn
  have bt := hW.tn
  have bf := hW.fn
  have bo : aR A 0 0 < 2 := hW.on (by decide)
  have bl : (aL A).1 < 2 := hW.2.2.2.2.1.1
  refine Ct.of (L := [some (pR (some 158)), some (pI (nI n)), none]) rfl rfl (Nat.le_of_ble_eq_true rfl) rfl ?_
  refine J_iload_n dX10_go_0 rfl ?_
  refine J_iconstN (n := 0) dX10_go_1 ?_
  refine J_iconstN (n := 5) dX10_go_2 ?_
  refine J_cSI (as := [pI (nI n), pI (nI 0), pI (nI 5)]) (st := []) dX10_go_3 lX10_172 okX10_in sX10_in rfl rfl (Nat.le_of_ble_eq_true rfl) ⟨Nat.le_of_ble_eq_true rfl, Nat.le_of_ble_eq_true rfl⟩ CR.f (c_X10_in) (fun vq1 gq1 eq1 => ?_)
  obtain ⟨rfl, fq1⟩ := eq1
  rw [fq1]
  refine J_cvI (bI_congr (inN (by omega) (by omega) (by omega))) ?_
  refine J_if_neB dX10_go_6 (fun c2 => ?_) (fun c2 => ?_)
  · refine J_aload_n dX10_go_12 rfl ?_
    refine J_getR (r := some 184) dX10_go_13 fX10_95 s158 (fun _ => rfl) (g158_48 hG) ?_
    refine J_iconstN (n := 0) dX10_go_16 ?_
    refine J_ialdN dX10_go_17 s184 (by decide) (by omega) ?_
    refine J_cvI (hM.2.2.2.2.2.1.1) ?_
    refine J_if_neN dX10_go_18 (by omega) (fun c3 => ?_) (fun c3 => ?_)
    · exact (show False by omega).elim
    · refine J_bipush (x := (-4)) dX10_go_21 (by decide) ?_
      exact J_retI dX10_go_23 rfl ⟨rfl, hM, Fr.rf⟩
  · exact (show False by omega).elim
theorem c_X10_go_no {h : PH} {A : AS} {n : Int32} (hG : GR h.2.2) (hM : MI h A) (hW : WF A) (hno : ¬ inR n 6) : CtI mX10_go h [pR (some 158), pI n] (fun v h' => v = -2 ∧ MP h h' A) := by
  have bN := hW.1
  have bk := hW.wk
  have bc := hW.cs
  have bw := hW.wn
  have bt := hW.tn
  have bf := hW.fn
  have bo : aR A 0 0 < 2 := hW.on (by decide)
  have bl : (aL A).1 < 2 := hW.2.2.2.2.1.1
  refine Ct.of (L := [some (pR (some 158)), some (pI n), none]) rfl rfl (Nat.le_of_ble_eq_true rfl) rfl ?_
  refine J_iload_n dX10_go_0 rfl ?_
  refine J_iconstN (n := 0) dX10_go_1 ?_
  refine J_iconstN (n := 5) dX10_go_2 ?_
  refine J_cSI (as := [pI n, pI (nI 0), pI (nI 5)]) (st := []) dX10_go_3 lX10_172 okX10_in sX10_in rfl rfl (Nat.le_of_ble_eq_true rfl) ⟨Nat.le_of_ble_eq_true rfl, Nat.le_of_ble_eq_true rfl⟩ CR.f (c_X10_in) (fun vq1 gq1 eq1 => ?_)
  obtain ⟨rfl, fq1⟩ := eq1
  rw [fq1]
  refine J_cvI (bI_congr (in_iffN (b := 5) (by decide))) ?_
  refine J_if_neB dX10_go_6 (fun c2 => ?_) (fun c2 => ?_)
  · exact absurd c2 hno
  · refine J_bipush (x := (-2)) dX10_go_9 (by decide) ?_
    exact J_retI dX10_go_11 rfl ⟨rfl, hM, Fr.rf⟩
theorem c_X10_go {h : PH} {A : AS} {n : Int32} (hG : GR h.2.2) (hM : MI h A) (hW : WF A) : CtI mX10_go h [pR (some 158), pI n] (fun v h' => v = goA A n ∧ MP h h' (goS A n)) := by
  by_cases h1 : inR n 6
  · obtain ⟨n, hn, rfl⟩ := inR_of h1
    rw [goA, goS, if_pos h1, cl, nI_clamp (by omega)]
    by_cases h2 : aR A 0 0 = 1
    · rw [if_pos h2]
      by_cases h3 : aR A 0 2 + n ≤ aP A 0 0 0
      · rw [if_pos h3, if_pos ⟨h1, h2, h3⟩]
        exact c_X10_go_in hG hM hW hn h2 h3
      · rw [if_neg h3, if_neg (fun z => h3 z.2.2)]
        exact c_X10_go_far hG hM hW hn h2 h3
    · rw [if_neg h2, if_neg (fun z => h2 z.2.1)]
      exact c_X10_go_off hG hM hW hn h2
  · rw [goA, goS, if_neg h1, if_neg (fun z => h1 z.1)]
    exact c_X10_go_no hG hM hW h1
