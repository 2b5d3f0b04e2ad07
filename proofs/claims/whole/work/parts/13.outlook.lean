theorem c_X9_tenTo {h : PH} {n : Nat} (hn : n < 1000) : CtL mX9_tenTo h [pI (nI n)] (fun v h' => v = tenL n ∧ h' = h) := by
  refine Ct.of (L := [some (pI (nI n)), none, none, none]) rfl rfl (Nat.le_of_ble_eq_true rfl) rfl ?_
  refine J_lconst (x := 1) dX9_tenTo_0 rfl ?_
  refine J_lstore_n (L' := [some (pI (nI n)), some (pL 1), none, none]) dX9_tenTo_1 (by decide) rfl ?_
  refine J_iconstN (n := 0) dX9_tenTo_2 ?_
  refine J_istore_n (L' := [some (pI (nI n)), some (pL 1), none, some (pI (nI 0))]) dX9_tenTo_3 (by decide) rfl ?_
  refine J_L (L' := [some (pI (nI n)), some (pL (tenL 0)), none, some (pI (nI 0))]) rfl ?_
  refine J_for (L := fun i => [some (pI (nI n)), some (pL (tenL i)), none, some (pI (nI i))]) (hf := fun i => h) (e := n) ?_ (fun i hi ih => ?_) 0 (by omega)
  · show J _ _ _ _ _ [some (pI (nI n)), some (pL (tenL n)), none, some (pI (nI n))] _ _ (h)
    refine J_iload_n dX9_tenTo_4 rfl ?_
    refine J_iload_n dX9_tenTo_5 rfl ?_
    refine J_icmp_geN dX9_tenTo_6 (by omega) (by omega) (fun c1 => ?_) (fun c1 => ?_)
    · refine J_lload_n dX9_tenTo_21 rfl ?_
      exact J_retL dX9_tenTo_22 rfl ⟨rfl, rfl⟩
    · exact (show False by omega).elim
  · show J _ _ _ _ _ [some (pI (nI n)), some (pL (tenL i)), none, some (pI (nI i))] _ _ (h)
    refine J_iload_n dX9_tenTo_4 rfl ?_
    refine J_iload_n dX9_tenTo_5 rfl ?_
    refine J_icmp_geN dX9_tenTo_6 (by omega) (by omega) (fun c2 => ?_) (fun c2 => ?_)
    · exact (show False by omega).elim
    · refine J_lload_n dX9_tenTo_9 rfl ?_
      refine J_ldc2 dX9_tenTo_10 kX9_333 ?_
      refine J_lmul dX9_tenTo_13 ?_
      refine J_lstore_n (L' := [some (pI (nI n)), some (pL ((tenL i) * 10)), none, some (pI (nI i))]) dX9_tenTo_14 (by decide) rfl ?_
      refine J_iincN (n := 1) (L' := [some (pI (nI n)), some (pL ((tenL i) * 10)), none, some (pI (nI (i + 1)))]) dX9_tenTo_15 rfl (by decide) rfl ?_
      refine J_goto dX9_tenTo_18 ?_
      exact ih
theorem c_X2_valueOfWeek {h : PH} {sf r g l m sp : Nat} {pg pl pm ps ways : Int64} (hG : GR h.2.2) (i5 : h.1 92 5 = nI sf) (l6 : h.2.1 92 6 = pg) (l7 : h.2.1 92 7 = pl) (l8 : h.2.1 92 8 = pm) (l9 : h.2.1 92 9 = ps) (l11 : h.2.1 92 11 = ways) (w0 : h.1 97 0 = nI r) (w1 : h.1 97 1 = nI g) (w2 : h.1 97 2 = nI l) (w3 : h.1 97 3 = nI m) (w4 : h.1 97 4 = nI sp) (bsf : sf < 2) (b0 : r < 61) (b1 : g < 1000) (b2 : l < 1000) (b3 : m < 1000) (b4 : sp < 1000) : CtL mX2_valueOfWeek h [pR (some 92)] (fun v h' => v = wv sf pg pl pm ps ways (h.2.1 93) g l m sp r ∧ h' = h) := by
  refine Ct.of (L := [some (pR (some 92)), none, none]) rfl rfl (Nat.le_of_ble_eq_true rfl) rfl ?_
  refine J_aload_n dX2_valueOfWeek_0 rfl ?_
  refine J_getI dX2_valueOfWeek_1 fX2_31 s92 (fun _ => rfl) ?_
  refine J_cvI (i5) ?_
  refine J_if_eqN dX2_valueOfWeek_4 (by omega) (fun c1 => ?_) (fun c1 => ?_)
  · refine J_aload_n dX2_valueOfWeek_34 rfl ?_
    refine J_getL dX2_valueOfWeek_35 fX2_35 s92 (fun _ => rfl) ?_
    refine J_cvL (l6) ?_
    refine J_aload_n dX2_valueOfWeek_38 rfl ?_
    refine J_getR (r := some 97) dX2_valueOfWeek_39 fX2_27 s92 (fun _ => rfl) (g92_4 hG) ?_
    refine J_getI dX2_valueOfWeek_42 fX2_100 s97 (fun _ => rfl) ?_
    refine J_cvI (w1) ?_
    refine J_i2lN dX2_valueOfWeek_45 (by omega) ?_
    refine J_lmul dX2_valueOfWeek_46 ?_
    refine J_aload_n dX2_valueOfWeek_47 rfl ?_
    refine J_getL dX2_valueOfWeek_48 fX2_39 s92 (fun _ => rfl) ?_
    refine J_cvL (l7) ?_
    refine J_aload_n dX2_valueOfWeek_51 rfl ?_
    refine J_getR (r := some 97) dX2_valueOfWeek_52 fX2_27 s92 (fun _ => rfl) (g92_4 hG) ?_
    refine J_getI dX2_valueOfWeek_55 fX2_94 s97 (fun _ => rfl) ?_
    refine J_cvI (w2) ?_
    refine J_i2lN dX2_valueOfWeek_58 (by omega) ?_
    refine J_lmul dX2_valueOfWeek_59 ?_
    refine J_ladd dX2_valueOfWeek_60 ?_
    refine J_aload_n dX2_valueOfWeek_61 rfl ?_
    refine J_getL dX2_valueOfWeek_62 fX2_42 s92 (fun _ => rfl) ?_
    refine J_cvL (l8) ?_
    refine J_aload_n dX2_valueOfWeek_65 rfl ?_
    refine J_getR (r := some 97) dX2_valueOfWeek_66 fX2_27 s92 (fun _ => rfl) (g92_4 hG) ?_
    refine J_getI dX2_valueOfWeek_69 fX2_103 s97 (fun _ => rfl) ?_
    refine J_cvI (w3) ?_
    refine J_i2lN dX2_valueOfWeek_72 (by omega) ?_
    refine J_lmul dX2_valueOfWeek_73 ?_
    refine J_ladd dX2_valueOfWeek_74 ?_
    refine J_aload_n dX2_valueOfWeek_75 rfl ?_
    refine J_getL dX2_valueOfWeek_76 fX2_45 s92 (fun _ => rfl) ?_
    refine J_cvL (l9) ?_
    refine J_aload_n dX2_valueOfWeek_79 rfl ?_
    refine J_getR (r := some 97) dX2_valueOfWeek_80 fX2_27 s92 (fun _ => rfl) (g92_4 hG) ?_
    refine J_getI dX2_valueOfWeek_83 fX2_106 s97 (fun _ => rfl) ?_
    refine J_cvI (w4) ?_
    refine J_i2lN dX2_valueOfWeek_86 (by omega) ?_
    refine J_lmul dX2_valueOfWeek_87 ?_
    refine J_ladd dX2_valueOfWeek_88 ?_
    refine J_nmL (fun v2 e2 => ?_)
    refine J_lstore_n (L' := [some (pR (some 92)), some (pL v2), none]) dX2_valueOfWeek_89 (by decide) rfl ?_
    refine J_lload_n dX2_valueOfWeek_90 rfl ?_
    refine J_aload_n dX2_valueOfWeek_91 rfl ?_
    refine J_getL dX2_valueOfWeek_92 fX2_63 s92 (fun _ => rfl) ?_
    refine J_cvL (l11) ?_
    refine J_lmul dX2_valueOfWeek_95 ?_
    refine J_aload_n dX2_valueOfWeek_96 rfl ?_
    refine J_getR (r := some 93) dX2_valueOfWeek_97 fX2_11 s92 (fun _ => rfl) (g92_0 hG) ?_
    refine J_aload_n dX2_valueOfWeek_100 rfl ?_
    refine J_getR (r := some 97) dX2_valueOfWeek_101 fX2_27 s92 (fun _ => rfl) (g92_4 hG) ?_
    refine J_getI dX2_valueOfWeek_104 fX2_97 s97 (fun _ => rfl) ?_
    refine J_cvI (w0) ?_
    refine J_laldN dX2_valueOfWeek_107 s93 (by decide) (by omega) ?_
    refine J_ladd dX2_valueOfWeek_108 ?_
    exact J_retL dX2_valueOfWeek_109 rfl ⟨by grind [wv], rfl⟩
  · refine J_aload_n dX2_valueOfWeek_7 rfl ?_
    refine J_getR (r := some 97) dX2_valueOfWeek_8 fX2_27 s92 (fun _ => rfl) (g92_4 hG) ?_
    refine J_getI dX2_valueOfWeek_11 fX2_94 s97 (fun _ => rfl) ?_
    refine J_cvI (w2) ?_
    refine J_if_leN dX2_valueOfWeek_14 (by omega) (fun c3 => ?_) (fun c3 => ?_)
    · refine J_aload_n dX2_valueOfWeek_21 rfl ?_
      refine J_getR (r := some 93) dX2_valueOfWeek_22 fX2_11 s92 (fun _ => rfl) (g92_0 hG) ?_
      refine J_aload_n dX2_valueOfWeek_25 rfl ?_
      refine J_getR (r := some 97) dX2_valueOfWeek_26 fX2_27 s92 (fun _ => rfl) (g92_4 hG) ?_
      refine J_getI dX2_valueOfWeek_29 fX2_97 s97 (fun _ => rfl) ?_
      refine J_cvI (w0) ?_
      refine J_laldN dX2_valueOfWeek_32 s93 (by decide) (by omega) ?_
      exact J_retL dX2_valueOfWeek_33 rfl ⟨by grind [wv], rfl⟩
    · refine J_lconst (x := 0) dX2_valueOfWeek_17 rfl ?_
      refine J_goto dX2_valueOfWeek_18 ?_
      exact J_retL dX2_valueOfWeek_33 rfl ⟨by grind [wv], rfl⟩
theorem c_X2_valueBefore {h0 : PH} {th w rk rl so sf s : Nat} {u : Nat → Nat} {pg pl pm ps ways : Int64} {V : Nat → Int64} (hG0 : GR h0.2.2) (hth : IsTh th) (hw : w < 4) (hT0 : TH h0 th rk rl so) (hU0 : WA h0 (th + 2 + w) u) (hO0 : OL h0 sf pg pl pm ps) (hW0 : h0.2.1 92 11 = ways) (hV : h0.2.1 93 = V) (bs : s < 61) : CtL mX2_valueBefore h0 [pR (some 92), pR (some th), pR (some (th + 2 + w)), pI (nI s)] (fun v h' => v = vbN rk rl so u sf pg pl pm ps ways V s 4 ∧ Fr 97 97 h0 h') := by
  have hl1 := hth.lt
  refine Ct.of (L := [some (pR (some 92)), some (pR (some th)), some (pR (some (th + 2 + w))), some (pI (nI s)), none, none, none]) rfl rfl (Nat.le_of_ble_eq_true rfl) rfl ?_
  refine J_lconst (x := 0) dX2_valueBefore_0 rfl ?_
  refine J_lstore (L' := [some (pR (some 92)), some (pR (some th)), some (pR (some (th + 2 + w))), some (pI (nI s)), some (pL 0), none, none]) dX2_valueBefore_1 (by decide) rfl ?_
  refine J_iconstN (n := 0) dX2_valueBefore_3 ?_
  refine J_istore (L' := [some (pR (some 92)), some (pR (some th)), some (pR (some (th + 2 + w))), some (pI (nI s)), some (pL 0), none, some (pI (nI 0))]) dX2_valueBefore_4 (by decide) rfl ?_
  refine J_L (L' := [some (pR (some 92)), some (pR (some th)), some (pR (some (th + 2 + w))), some (pI (nI s)), some (pL (vbN rk rl so u sf pg pl pm ps ways V s 0)), none, some (pI (nI 0))]) rfl ?_
  refine J_forI (α := Unit) (L := fun i aa => [some (pR (some 92)), some (pR (some th)), some (pR (some (th + 2 + w))), some (pI (nI s)), some (pL (vbN rk rl so u sf pg pl pm ps ways V s i)), none, some (pI (nI i))]) (fun i aa h => Fr 97 97 h0 h) (e := 4) (fun aa h hI => ?_) (fun i aa h hi hI ih => ?_) 0 (()) _ (by omega) (Fr.rf)
  · show J _ _ _ _ _ [some (pR (some 92)), some (pR (some th)), some (pR (some (th + 2 + w))), some (pI (nI s)), some (pL (vbN rk rl so u sf pg pl pm ps ways V s 4)), none, some (pI (nI 4))] _ _ h
    refine J_iload dX2_valueBefore_6 rfl ?_
    refine J_iconstN (n := 4) dX2_valueBefore_8 ?_
    refine J_icmp_geN dX2_valueBefore_9 (by decide) (by decide) (fun c0 => ?_) (fun c0 => absurd c0 (by decide))
    refine J_lload dX2_valueBefore_62 rfl ?_
    exact J_retL dX2_valueBefore_64 rfl ⟨rfl, hI⟩
  · show J _ _ _ _ _ [some (pR (some 92)), some (pR (some th)), some (pR (some (th + 2 + w))), some (pI (nI s)), some (pL (vbN rk rl so u sf pg pl pm ps ways V s i)), none, some (pI (nI i))] _ _ h
    have hG := hI.g hG0
    have hT := hT0.fr hI (by omega)
    have hU := hU0.fr hI (by omega)
    have hO := hO0.fr hI (by omega)
    have hW := (hI.l (by omega)).trans hW0
    obtain ⟨-, -, -, tb1, tb2, tb3⟩ := id hT
    obtain ⟨-, -, -, -, -, ob1⟩ := id hO
    have u4 := (hU 4 (by omega)).2
    have ui := (hU i (by omega)).2
    refine J_iload dX2_valueBefore_6 rfl ?_
    refine J_iconstN (n := 4) dX2_valueBefore_8 ?_
    refine J_icmp_geN dX2_valueBefore_9 (by omega) (by omega) (fun c1 => ?_) (fun c1 => ?_)
    · exact (show False by omega).elim
    · refine J_aload_n dX2_valueBefore_12 rfl ?_
      refine J_iload dX2_valueBefore_13 rfl ?_
      refine J_ialdN dX2_valueBefore_15 (hth.sw (by omega)) (by decide) (by omega) ?_
      refine J_cvI ((hU i (by omega)).1) ?_
      refine J_if_leN dX2_valueBefore_16 (by omega) (fun c2 => ?_) (fun c2 => ?_)
      · refine J_iincN (n := 1) (L' := [some (pR (some 92)), some (pR (some th)), some (pR (some (th + 2 + w))), some (pI (nI s)), some (pL (vbN rk rl so u sf pg pl pm ps ways V s i)), none, some (pI (nI (i + 1)))]) dX2_valueBefore_56 rfl (by decide) rfl ?_
        refine J_goto dX2_valueBefore_59 ?_
        refine J_L (L' := [some (pR (some 92)), some (pR (some th)), some (pR (some (th + 2 + w))), some (pI (nI s)), some (pL (vbN rk rl so u sf pg pl pm ps ways V s (i + 1))), none, some (pI (nI (i + 1)))]) (by simp [vbN, c2, lN_0]) ?_
        exact ih () _ hI
      · refine J_aload_n dX2_valueBefore_19 rfl ?_
        refine J_getR (r := some 97) dX2_valueBefore_20 fX2_27 s92 (fun _ => rfl) (g92_4 hG) ?_
        refine J_aload_n dX2_valueBefore_23 rfl ?_
        refine J_iload_n dX2_valueBefore_24 rfl ?_
        refine J_iload dX2_valueBefore_25 rfl ?_
        refine J_aload_n dX2_valueBefore_27 rfl ?_
        refine J_iconstN (n := 4) dX2_valueBefore_28 ?_
        refine J_ialdN dX2_valueBefore_29 (hth.sw (by omega)) (by decide) (by omega) ?_
        refine J_cvI ((hU 4 (by omega)).1) ?_
        refine J_cVV (ci := 8) (c := 97) (as := [pR (some th), pI (nI s), pI (nI i), pI (nI (u 4))]) (st := []) dX2_valueBefore_30 lX2_82 okX8_giveOut vX8_giveOut s97 (by decide) rfl rfl rfl (Nat.le_of_ble_eq_true rfl) ⟨Nat.le_of_ble_eq_true rfl, Nat.le_of_ble_eq_true rfl⟩ CR.f (c_X8_giveOut (by unfold IsWk; omega) hth (hT.1) (hT.2.1) tb1 tb2 (by omega) (by omega) (by omega)) (fun h1 e1 => ?_)
        subst e1
        refine J_aload_n dX2_valueBefore_33 rfl ?_
        refine J_getR (r := some 97) dX2_valueBefore_34 fX2_27 s92 (fun _ => rfl) ((xRI).trans ((xRI).trans ((xRI).trans ((xRI).trans (g92_4 hG))))) ?_
        refine J_aload_n dX2_valueBefore_37 rfl ?_
        refine J_cVV (ci := 8) (c := 97) (as := [pR (some th)]) (st := []) dX2_valueBefore_38 lX2_86 okX8_letSpoil vX8_letSpoil s97 (by decide) rfl rfl rfl (Nat.le_of_ble_eq_true rfl) ⟨Nat.le_of_ble_eq_true rfl, Nat.le_of_ble_eq_true rfl⟩ CR.f (c_X8_letSpoil (by unfold IsWk; omega) hth ((rI_c (by omega)).trans ((rI_c (by omega)).trans ((rI_c (by omega)).trans ((rI_c (by omega)).trans (hT.2.2.1))))) (rI_s) tb3 (by have := rs_le rk rl s i (u 4); omega)) (fun h2 e2 => ?_)
        subst e2
        refine J_lload dX2_valueBefore_41 rfl ?_
        refine J_aload_n dX2_valueBefore_43 rfl ?_
        refine J_iload dX2_valueBefore_44 rfl ?_
        refine J_ialdN dX2_valueBefore_46 (hth.sw (by omega)) (by decide) (by omega) ?_
        refine J_cvI ((rI_c (by omega)).trans ((rI_c (by omega)).trans ((rI_c (by omega)).trans ((rI_c (by omega)).trans ((rI_c (by omega)).trans ((rI_c (by omega)).trans ((hU i (by omega)).1))))))) ?_
        refine J_i2lN dX2_valueBefore_47 (by omega) ?_
        refine J_aload_n dX2_valueBefore_48 rfl ?_
        have r1 := rs_le rk rl s i (u 4)
        have r2 := gv_le rk rl s i (u 4)
        have r3 := sl_le so (rsN rk rl s i (u 4))
        have r4 := ws_le rk rl s i (u 4)
        have r5 : lkN s i (u 4) ≤ i := by unfold lkN; omega
        have r6 : msN rk rl s i (u 4) ≤ i := by unfold msN; omega
        refine J_cVL (ci := 2) (c := 92) (as := []) (st := [pL (lN (u i)), pL (vbN rk rl so u sf pg pl pm ps ways V s i)]) dX2_valueBefore_49 lX2_90 okX2_valueOfWeek vX2_valueOfWeek s92 (by decide) rfl rfl rfl (Nat.le_of_ble_eq_true rfl) ⟨Nat.le_of_ble_eq_true rfl, Nat.le_of_ble_eq_true rfl⟩ CR.f (c_X2_valueOfWeek hG ((rI_c (by decide)).trans ((rI_c (by decide)).trans ((rI_c (by decide)).trans ((rI_c (by decide)).trans ((rI_c (by decide)).trans ((rI_c (by decide)).trans (hO.1))))))) ((xLI).trans ((xLI).trans ((xLI).trans ((xLI).trans ((xLI).trans ((xLI).trans (hO.2.1))))))) ((xLI).trans ((xLI).trans ((xLI).trans ((xLI).trans ((xLI).trans ((xLI).trans (hO.2.2.1))))))) ((xLI).trans ((xLI).trans ((xLI).trans ((xLI).trans ((xLI).trans ((xLI).trans (hO.2.2.2.1))))))) ((xLI).trans ((xLI).trans ((xLI).trans ((xLI).trans ((xLI).trans ((xLI).trans (hO.2.2.2.2.1))))))) ((xLI).trans ((xLI).trans ((xLI).trans ((xLI).trans ((xLI).trans ((xLI).trans (hW))))))) (rI_s) ((rI_k (by decide)).trans ((rI_k (by decide)).trans ((rI_k (by decide)).trans ((rI_k (by decide)).trans ((rI_k (by decide)).trans (rI_s)))))) ((rI_k (by decide)).trans ((rI_k (by decide)).trans ((rI_k (by decide)).trans ((rI_k (by decide)).trans (rI_s))))) ((rI_k (by decide)).trans ((rI_k (by decide)).trans ((rI_k (by decide)).trans (rI_s)))) ((rI_k (by decide)).trans (rI_s)) ob1 (by omega) (by omega) (by omega) (by omega) (by omega)) (fun v3 h3 e3 => ?_)
        obtain ⟨e4, rfl⟩ := e3
        refine J_cvL (y := wkv rk rl so (u 4) sf pg pl pm ps ways V s i) (e4.trans (by show wv _ _ _ _ _ _ (h.2.1 93) _ _ _ _ _ = _; rw [(hI.1 93 (by omega)).2, hV]; rfl)) ?_
        refine J_lmul dX2_valueBefore_52 ?_
        refine J_ladd dX2_valueBefore_53 ?_
        refine J_lstore (L' := [some (pR (some 92)), some (pR (some th)), some (pR (some (th + 2 + w))), some (pI (nI s)), some (pL ((vbN rk rl so u sf pg pl pm ps ways V s i) + ((lN (u i)) * (wkv rk rl so (u 4) sf pg pl pm ps ways V s i)))), none, some (pI (nI i))]) dX2_valueBefore_54 (by decide) rfl ?_
        refine J_iincN (n := 1) (L' := [some (pR (some 92)), some (pR (some th)), some (pR (some (th + 2 + w))), some (pI (nI s)), some (pL ((vbN rk rl so u sf pg pl pm ps ways V s i) + ((lN (u i)) * (wkv rk rl so (u 4) sf pg pl pm ps ways V s i)))), none, some (pI (nI (i + 1)))]) dX2_valueBefore_56 rfl (by decide) rfl ?_
        refine J_goto dX2_valueBefore_59 ?_
        refine J_L (L' := [some (pR (some 92)), some (pR (some th)), some (pR (some (th + 2 + w))), some (pI (nI s)), some (pL (vbN rk rl so u sf pg pl pm ps ways V s (i + 1))), none, some (pI (nI (i + 1)))]) rfl ?_
        exact ih () _ (hI.tr (((((Fr.sI (by omega) (by omega)).tr (Fr.sI (by omega) (by omega))).tr (Fr.sI (by omega) (by omega))).tr (Fr.sI (by omega) (by omega))).tr ((Fr.sI (by omega) (by omega)).tr (Fr.sI (by omega) (by omega)))))
theorem c_X2_clearAny {h : PH} {m : Nat} (hG : GR h.2.2) (bm : m < 61) : CtV mX2_clearAny h [pR (some 92), pI (nI m)] (fun h' => h' = wL h 94 (fil (fun j => 0) (m + 1) (h.2.1 94))) := by
  refine Ct.of (L := [some (pR (some 92)), some (pI (nI m)), none]) rfl rfl (Nat.le_of_ble_eq_true rfl) rfl ?_
  refine J_iconstN (n := 0) dX2_clearAny_0 ?_
  refine J_istore_n (L' := [some (pR (some 92)), some (pI (nI m)), some (pI (nI 0))]) dX2_clearAny_1 (by decide) rfl ?_
  refine J_h (h' := wL h 94 (fil (fun j => 0) 0 (h.2.1 94))) fil_h0L ?_
  refine J_for (L := fun i => [some (pR (some 92)), some (pI (nI m)), some (pI (nI i))]) (hf := fun i => wL h 94 (fil (fun j => 0) i (h.2.1 94))) (e := m + 1) ?_ (fun i hi ih => ?_) 0 (by omega)
  · show J _ _ _ _ _ [some (pR (some 92)), some (pI (nI m)), some (pI (nI (m + 1)))] _ _ (wL h 94 (fil (fun j => 0) (m + 1) (h.2.1 94)))
    refine J_iload_n dX2_clearAny_2 rfl ?_
    refine J_iload_n dX2_clearAny_3 rfl ?_
    refine J_icmp_gtN dX2_clearAny_4 (by omega) (by omega) (fun c1 => ?_) (fun c1 => ?_)
    · exact J_retV dX2_clearAny_20 rfl rfl
    · exact (show False by omega).elim
  · show J _ _ _ _ _ [some (pR (some 92)), some (pI (nI m)), some (pI (nI i))] _ _ (wL h 94 (fil (fun j => 0) i (h.2.1 94)))
    refine J_iload_n dX2_clearAny_2 rfl ?_
    refine J_iload_n dX2_clearAny_3 rfl ?_
    refine J_icmp_gtN dX2_clearAny_4 (by omega) (by omega) (fun c2 => ?_) (fun c2 => ?_)
    · exact (show False by omega).elim
    · refine J_aload_n dX2_clearAny_7 rfl ?_
      refine J_getR (r := some 94) dX2_clearAny_8 fX2_15 s92 (fun _ => rfl) ((xRL).trans (g92_1 hG)) ?_
      refine J_iload_n dX2_clearAny_11 rfl ?_
      refine J_lconst (x := 0) dX2_clearAny_12 rfl ?_
      refine J_lastN dX2_clearAny_13 s94 (by decide) (by omega) ?_
      refine J_iincN (n := 1) (L' := [some (pR (some 92)), some (pI (nI m)), some (pI (nI (i + 1)))]) dX2_clearAny_14 rfl (by decide) rfl ?_
      refine J_goto dX2_clearAny_17 ?_
      refine J_h (h' := wL h 94 (fil (fun j => 0) (i + 1) (h.2.1 94))) (fil_stL rfl) ?_
      exact ih
theorem c_X2_addToAny {h : PH} {m : Nat} {x : Int64} (hG : GR h.2.2) (bm : m < 61) : CtV mX2_addToAny h [pR (some 92), pL x, pI (nI m)] (fun h' => h' = wL h 94 (fil (fun j => h.2.1 94 j + x * h.2.1 93 j) (m + 1) (h.2.1 94))) := by
  refine Ct.of (L := [some (pR (some 92)), some (pL x), none, some (pI (nI m)), none]) rfl rfl (Nat.le_of_ble_eq_true rfl) rfl ?_
  refine J_iconstN (n := 0) dX2_addToAny_0 ?_
  refine J_istore (L' := [some (pR (some 92)), some (pL x), none, some (pI (nI m)), some (pI (nI 0))]) dX2_addToAny_1 (by decide) rfl ?_
  refine J_h (h' := wL h 94 (fil (fun j => h.2.1 94 j + x * h.2.1 93 j) 0 (h.2.1 94))) fil_h0L ?_
  refine J_for (L := fun i => [some (pR (some 92)), some (pL x), none, some (pI (nI m)), some (pI (nI i))]) (hf := fun i => wL h 94 (fil (fun j => h.2.1 94 j + x * h.2.1 93 j) i (h.2.1 94))) (e := m + 1) ?_ (fun i hi ih => ?_) 0 (by omega)
  · show J _ _ _ _ _ [some (pR (some 92)), some (pL x), none, some (pI (nI m)), some (pI (nI (m + 1)))] _ _ (wL h 94 (fil (fun j => h.2.1 94 j + x * h.2.1 93 j) (m + 1) (h.2.1 94)))
    refine J_iload dX2_addToAny_3 rfl ?_
    refine J_iload_n dX2_addToAny_5 rfl ?_
    refine J_icmp_gtN dX2_addToAny_6 (by omega) (by omega) (fun c1 => ?_) (fun c1 => ?_)
    · exact J_retV dX2_addToAny_34 rfl rfl
    · exact (show False by omega).elim
  · show J _ _ _ _ _ [some (pR (some 92)), some (pL x), none, some (pI (nI m)), some (pI (nI i))] _ _ (wL h 94 (fil (fun j => h.2.1 94 j + x * h.2.1 93 j) i (h.2.1 94)))
    refine J_iload dX2_addToAny_3 rfl ?_
    refine J_iload_n dX2_addToAny_5 rfl ?_
    refine J_icmp_gtN dX2_addToAny_6 (by omega) (by omega) (fun c2 => ?_) (fun c2 => ?_)
    · exact (show False by omega).elim
    · refine J_aload_n dX2_addToAny_9 rfl ?_
      refine J_getR (r := some 94) dX2_addToAny_10 fX2_15 s92 (fun _ => rfl) ((xRL).trans (g92_1 hG)) ?_
      refine J_iload dX2_addToAny_13 rfl ?_
      refine J_dup2 dX2_addToAny_15 rfl rfl ?_
      refine J_laldN dX2_addToAny_16 s94 (by decide) (by omega) ?_
      refine J_cvL ((congrFun (rWL_s) i).trans ((fil_at (Nat.le_refl _)))) ?_
      refine J_lload_n dX2_addToAny_17 rfl ?_
      refine J_aload_n dX2_addToAny_18 rfl ?_
      refine J_getR (r := some 93) dX2_addToAny_19 fX2_11 s92 (fun _ => rfl) ((xRL).trans (g92_0 hG)) ?_
      refine J_iload dX2_addToAny_22 rfl ?_
      refine J_laldN dX2_addToAny_24 s93 (by decide) (by omega) ?_
      refine J_cvL (y := h.2.1 93 i) ((congrFun (rWL_c (by decide)) i)) ?_
      refine J_lmul dX2_addToAny_25 ?_
      refine J_ladd dX2_addToAny_26 ?_
      refine J_lastN dX2_addToAny_27 s94 (by decide) (by omega) ?_
      refine J_iincN (n := 1) (L' := [some (pR (some 92)), some (pL x), none, some (pI (nI m)), some (pI (nI (i + 1)))]) dX2_addToAny_28 rfl (by decide) rfl ?_
      refine J_goto dX2_addToAny_31 ?_
      refine J_h (h' := wL h 94 (fil (fun j => h.2.1 94 j + x * h.2.1 93 j) (i + 1) (h.2.1 94))) (fil_stL rfl) ?_
      exact ih
theorem c_X2_payFor {h : PH} {m th co : Nat} {x : Int64} (hG : GR h.2.2) (hth : IsTh th) (hc : h.1 th 1 = nI co) (bc : co < 1000) (bm : m < 61) : CtV mX2_payFor h [pR (some 92), pR (some th), pI (nI m), pL x] (fun h' => h' = wL h 94 (fil (fun j => h.2.1 94 j - lN (co * j) * x) (m + 1) (h.2.1 94))) := by
  refine Ct.of (L := [some (pR (some 92)), some (pR (some th)), some (pI (nI m)), some (pL x), none, none]) rfl rfl (Nat.le_of_ble_eq_true rfl) rfl ?_
  refine J_iconstN (n := 0) dX2_payFor_0 ?_
  refine J_istore (L' := [some (pR (some 92)), some (pR (some th)), some (pI (nI m)), some (pL x), none, some (pI (nI 0))]) dX2_payFor_1 (by decide) rfl ?_
  refine J_h (h' := wL h 94 (fil (fun j => h.2.1 94 j - lN (co * j) * x) 0 (h.2.1 94))) fil_h0L ?_
  refine J_for (L := fun i => [some (pR (some 92)), some (pR (some th)), some (pI (nI m)), some (pL x), none, some (pI (nI i))]) (hf := fun i => wL h 94 (fil (fun j => h.2.1 94 j - lN (co * j) * x) i (h.2.1 94))) (e := m + 1) ?_ (fun i hi ih => ?_) 0 (by omega)
  · show J _ _ _ _ _ [some (pR (some 92)), some (pR (some th)), some (pI (nI m)), some (pL x), none, some (pI (nI (m + 1)))] _ _ (wL h 94 (fil (fun j => h.2.1 94 j - lN (co * j) * x) (m + 1) (h.2.1 94)))
    refine J_iload dX2_payFor_3 rfl ?_
    refine J_iload_n dX2_payFor_5 rfl ?_
    refine J_icmp_gtN dX2_payFor_6 (by omega) (by omega) (fun c1 => ?_) (fun c1 => ?_)
    · exact J_retV dX2_payFor_35 rfl rfl
    · exact (show False by omega).elim
  · show J _ _ _ _ _ [some (pR (some 92)), some (pR (some th)), some (pI (nI m)), some (pL x), none, some (pI (nI i))] _ _ (wL h 94 (fil (fun j => h.2.1 94 j - lN (co * j) * x) i (h.2.1 94)))
    refine J_iload dX2_payFor_3 rfl ?_
    refine J_iload_n dX2_payFor_5 rfl ?_
    refine J_icmp_gtN dX2_payFor_6 (by omega) (by omega) (fun c2 => ?_) (fun c2 => ?_)
    · exact (show False by omega).elim
    · refine J_aload_n dX2_payFor_9 rfl ?_
      refine J_getR (r := some 94) dX2_payFor_10 fX2_15 s92 (fun _ => rfl) ((xRL).trans (g92_1 hG)) ?_
      refine J_iload dX2_payFor_13 rfl ?_
      refine J_dup2 dX2_payFor_15 rfl rfl ?_
      refine J_laldN dX2_payFor_16 s94 (by decide) (by omega) ?_
      refine J_cvL ((congrFun (rWL_s) i).trans ((fil_at (Nat.le_refl _)))) ?_
      refine J_aload_n dX2_payFor_17 rfl ?_
      refine J_getI dX2_payFor_18 fX2_146 hth.s (fun _ => rfl) ?_
      refine J_cvI ((xIL).trans (hc)) ?_
      refine J_iload dX2_payFor_21 rfl ?_
      refine J_imulN dX2_payFor_23 ?_
      refine J_i2lN dX2_payFor_24 (mul_lt31 1000 1000 (by omega) (by omega) (by decide)) ?_
      refine J_lload_n dX2_payFor_25 rfl ?_
      refine J_lmul dX2_payFor_26 ?_
      refine J_lsub dX2_payFor_27 ?_
      refine J_lastN dX2_payFor_28 s94 (by decide) (by omega) ?_
      refine J_iincN (n := 1) (L' := [some (pR (some 92)), some (pR (some th)), some (pI (nI m)), some (pL x), none, some (pI (nI (i + 1)))]) dX2_payFor_29 rfl (by decide) rfl ?_
      refine J_goto dX2_payFor_32 ?_
      refine J_h (h' := wL h 94 (fil (fun j => h.2.1 94 j - lN (co * j) * x) (i + 1) (h.2.1 94))) (fil_stL rfl) ?_
      exact ih
theorem c_X2_valueEnd {h : PH} {m sf : Nat} {pe : Int64} (hG : GR h.2.2) (i5 : h.1 92 5 = nI sf) (bsf : sf < 2) (l10 : h.2.1 92 10 = pe) (bm : m < 61) : CtV mX2_valueEnd h [pR (some 92), pI (nI m)] (fun h' => h' = sL (wL h 93 (fil (fun j => if sf = 1 then 1 else pe * lN j) (m + 1) (h.2.1 93))) 92 11 1) := by
  refine Ct.of (L := [some (pR (some 92)), some (pI (nI m)), none]) rfl rfl (Nat.le_of_ble_eq_true rfl) rfl ?_
  refine J_iconstN (n := 0) dX2_valueEnd_0 ?_
  refine J_istore_n (L' := [some (pR (some 92)), some (pI (nI m)), some (pI (nI 0))]) dX2_valueEnd_1 (by decide) rfl ?_
  refine J_h (h' := wL h 93 (fil (fun j => if sf = 1 then 1 else pe * lN j) 0 (h.2.1 93))) fil_h0L ?_
  refine J_for (L := fun i => [some (pR (some 92)), some (pI (nI m)), some (pI (nI i))]) (hf := fun i => wL h 93 (fil (fun j => if sf = 1 then 1 else pe * lN j) i (h.2.1 93))) (e := m + 1) ?_ (fun i hi ih => ?_) 0 (by omega)
  · show J _ _ _ _ _ [some (pR (some 92)), some (pI (nI m)), some (pI (nI (m + 1)))] _ _ (wL h 93 (fil (fun j => if sf = 1 then 1 else pe * lN j) (m + 1) (h.2.1 93)))
    refine J_iload_n dX2_valueEnd_2 rfl ?_
    refine J_iload_n dX2_valueEnd_3 rfl ?_
    refine J_icmp_gtN dX2_valueEnd_4 (by omega) (by omega) (fun c1 => ?_) (fun c1 => ?_)
    · refine J_aload_n dX2_valueEnd_37 rfl ?_
      refine J_lconst (x := 1) dX2_valueEnd_38 rfl ?_
      refine J_putL dX2_valueEnd_39 fX2_63 s92 rfl rfl ?_
      exact J_retV dX2_valueEnd_42 rfl rfl
    · exact (show False by omega).elim
  · show J _ _ _ _ _ [some (pR (some 92)), some (pI (nI m)), some (pI (nI i))] _ _ (wL h 93 (fil (fun j => if sf = 1 then 1 else pe * lN j) i (h.2.1 93)))
    refine J_iload_n dX2_valueEnd_2 rfl ?_
    refine J_iload_n dX2_valueEnd_3 rfl ?_
    refine J_icmp_gtN dX2_valueEnd_4 (by omega) (by omega) (fun c2 => ?_) (fun c2 => ?_)
    · exact (show False by omega).elim
    · refine J_aload_n dX2_valueEnd_7 rfl ?_
      refine J_getR (r := some 93) dX2_valueEnd_8 fX2_11 s92 (fun _ => rfl) ((xRL).trans (g92_0 hG)) ?_
      refine J_iload_n dX2_valueEnd_11 rfl ?_
      refine J_aload_n dX2_valueEnd_12 rfl ?_
      refine J_getI dX2_valueEnd_13 fX2_31 s92 (fun _ => rfl) ?_
      refine J_cvI ((xIL).trans (i5)) ?_
      refine J_if_eqN dX2_valueEnd_16 (by omega) (fun c3 => ?_) (fun c3 => ?_)
      · refine J_aload_n dX2_valueEnd_23 rfl ?_
        refine J_getL dX2_valueEnd_24 fX2_48 s92 (fun _ => rfl) ?_
        refine J_cvL ((congrFun (rWL_c (by decide)) 10).trans (l10)) ?_
        refine J_iload_n dX2_valueEnd_27 rfl ?_
        refine J_i2lN dX2_valueEnd_28 (by omega) ?_
        refine J_lmul dX2_valueEnd_29 ?_
        refine J_lastN dX2_valueEnd_30 s93 (by decide) (by omega) ?_
        refine J_iincN (n := 1) (L' := [some (pR (some 92)), some (pI (nI m)), some (pI (nI (i + 1)))]) dX2_valueEnd_31 rfl (by decide) rfl ?_
        refine J_goto dX2_valueEnd_34 ?_
        refine J_h (h' := wL h 93 (fil (fun j => if sf = 1 then 1 else pe * lN j) (i + 1) (h.2.1 93))) (fil_stL (by grind)) ?_
        exact ih
      · refine J_lconst (x := 1) dX2_valueEnd_19 rfl ?_
        refine J_goto dX2_valueEnd_20 ?_
        refine J_lastN dX2_valueEnd_30 s93 (by decide) (by omega) ?_
        refine J_iincN (n := 1) (L' := [some (pR (some 92)), some (pI (nI m)), some (pI (nI (i + 1)))]) dX2_valueEnd_31 rfl (by decide) rfl ?_
        refine J_goto dX2_valueEnd_34 ?_
        refine J_h (h' := wL h 93 (fil (fun j => if sf = 1 then 1 else pe * lN j) (i + 1) (h.2.1 93))) (fil_stL (by grind)) ?_
        exact ih
theorem c_X2_weeksBack {h0 : PH} {th w rk rl so sf k m : Nat} {u : Nat → Nat} {pg pl pm ps ways : Int64} {V : Nat → Int64} (hG0 : GR h0.2.2) (hth : IsTh th) (hw : w < 4) (hT0 : TH h0 th rk rl so) (hU0 : WA h0 (th + 2 + w) u) (hO0 : OL h0 sf pg pl pm ps) (hW0 : h0.2.1 92 11 = ways) (hV : ∀ s, s ≤ m → h0.2.1 93 s = V s) (bk : k < 100) (bm : m < 61) : CtV mX2_weeksBack h0 [pR (some 92), pR (some th), pI (nI w), pI (nI k), pI (nI m)] (fun h' => (∀ s, s ≤ m → h'.2.1 93 s = VB rk rl so u sf pg pl pm ps ways V k s) ∧ h'.2.1 92 11 = ways * tenL k ∧ FO h0 h') := by
  have hl1 := hth.lt
  refine Ct.of (L := [some (pR (some 92)), some (pR (some th)), some (pI (nI w)), some (pI (nI k)), some (pI (nI m)), none, none]) rfl rfl (Nat.le_of_ble_eq_true rfl) rfl ?_
  refine J_iconstN (n := 0) dX2_weeksBack_0 ?_
  refine J_istore (L' := [some (pR (some 92)), some (pR (some th)), some (pI (nI w)), some (pI (nI k)), some (pI (nI m)), some (pI (nI 0)), none]) dX2_weeksBack_1 (by decide) rfl ?_
  refine J_forI (α := Unit) (L := fun i aa => [some (pR (some 92)), some (pR (some th)), some (pI (nI w)), some (pI (nI k)), some (pI (nI m)), some (pI (nI i)), none]) (fun i aa h => (∀ s, s ≤ m → h.2.1 93 s = VB rk rl so u sf pg pl pm ps ways V i s) ∧ h.2.1 92 11 = ways * tenL i ∧ FO h0 h) (e := k) (fun aa h hI => ?_) (fun i aa h hi hI ih => ?_) 0 (()) _ (by omega) (⟨fun s hs => hV s hs, by rw [hW0]; simp [tenL], FO.rf⟩)
  · show J _ _ _ _ _ [some (pR (some 92)), some (pR (some th)), some (pI (nI w)), some (pI (nI k)), some (pI (nI m)), some (pI (nI k)), none] _ _ h
    refine J_iload dX2_weeksBack_3 rfl ?_
    refine J_iload_n dX2_weeksBack_5 rfl ?_
    refine J_icmp_geN dX2_weeksBack_6 (by omega) (by omega) (fun c1 => ?_) (fun c1 => ?_)
    · exact J_retV dX2_weeksBack_80 rfl hI
    · exact (show False by omega).elim
  · show J _ _ _ _ _ [some (pR (some 92)), some (pR (some th)), some (pI (nI w)), some (pI (nI k)), some (pI (nI m)), some (pI (nI i)), none] _ _ h
    obtain ⟨hA, hB, hC⟩ := hI
    have hG := hC.fr.g hG0
    refine J_iload dX2_weeksBack_3 rfl ?_
    refine J_iload_n dX2_weeksBack_5 rfl ?_
    refine J_icmp_geN dX2_weeksBack_6 (by omega) (by omega) (fun c2 => ?_) (fun c2 => ?_)
    · exact (show False by omega).elim
    · refine J_iconstN (n := 0) dX2_weeksBack_9 ?_
      refine J_istore (L' := [some (pR (some 92)), some (pR (some th)), some (pI (nI w)), some (pI (nI k)), some (pI (nI m)), some (pI (nI i)), some (pI (nI 0))]) dX2_weeksBack_10 (by decide) rfl ?_
      have hD : ∃ hx, hx = h := ⟨_, rfl⟩
      obtain ⟨hx, ex⟩ := hD
      rw [← ex] at hA hB hC hG
      have ex2 := ex.symm
      refine J_forI (α := Unit) (L := fun j a => [some (pR (some 92)), some (pR (some th)), some (pI (nI w)), some (pI (nI k)), some (pI (nI m)), some (pI (nI i)), some (pI (nI j))]) (fun j a h => (∀ s, s < j → h.2.1 95 s = vbN rk rl so u sf pg pl pm ps (ways * tenL i) (VB rk rl so u sf pg pl pm ps ways V i) s 4) ∧ h.2.1 93 = hx.2.1 93 ∧ h.2.1 92 = hx.2.1 92 ∧ FO hx h) (e := m + 1) (fun a h hI => ?_) (fun j a h hj hI ih2 => ?_) 0 () _ (by omega) (by subst ex; exact ⟨fun s hs => absurd hs (Nat.not_lt_zero s), rfl, rfl, FO.rf⟩)
      · obtain ⟨h1, h2, h3, h4⟩ := hI
        have hG := h4.fr.g hG
        show J _ _ _ _ _ [some (pR (some 92)), some (pR (some th)), some (pI (nI w)), some (pI (nI k)), some (pI (nI m)), some (pI (nI i)), some (pI (nI (m + 1)))] _ _ h
        refine J_iload dX2_weeksBack_12 rfl ?_
        refine J_iload dX2_weeksBack_14 rfl ?_
        refine J_icmp_gtN dX2_weeksBack_16 (by omega) (by omega) (fun c3 => ?_) (fun c3 => ?_)
        · refine J_aload_n dX2_weeksBack_45 rfl ?_
          refine J_getR (r := some 95) dX2_weeksBack_46 fX2_18 s92 (fun _ => rfl) (g92_2 hG) ?_
          refine J_iconstN (n := 0) dX2_weeksBack_49 ?_
          refine J_aload_n dX2_weeksBack_50 rfl ?_
          refine J_getR (r := some 93) dX2_weeksBack_51 fX2_11 s92 (fun _ => rfl) (g92_0 hG) ?_
          refine J_iconstN (n := 0) dX2_weeksBack_54 ?_
          refine J_iload dX2_weeksBack_55 rfl ?_
          refine J_iconstN (n := 1) dX2_weeksBack_57 ?_
          refine J_iaddN dX2_weeksBack_58 ?_
          refine J_cpyLN dX2_weeksBack_59 lX2_74 s95 s93 (by omega) (by omega) (by omega) (by omega) (by omega) (by decide) (Nat.le_of_ble_eq_true rfl) ?_
          refine J_aload_n dX2_weeksBack_62 rfl ?_
          refine J_dup dX2_weeksBack_63 rfl ?_
          refine J_getL dX2_weeksBack_64 fX2_63 s92 (fun _ => rfl) ?_
          refine J_cvL ((congrFun (rWL_c (by decide)) 11).trans (((congrFun h3 11).trans hB))) ?_
          refine J_ldc2 dX2_weeksBack_67 kX2_80 ?_
          refine J_lmul dX2_weeksBack_70 ?_
          refine J_putL dX2_weeksBack_71 fX2_63 s92 rfl rfl ?_
          refine J_iincN (n := 1) (L' := [some (pR (some 92)), some (pR (some th)), some (pI (nI w)), some (pI (nI k)), some (pI (nI m)), some (pI (nI (i + 1))), some (pI (nI (m + 1)))]) dX2_weeksBack_74 rfl (by decide) rfl ?_
          refine J_goto dX2_weeksBack_77 ?_
          refine J_drop (L' := [some (pR (some 92)), some (pR (some th)), some (pI (nI w)), some (pI (nI k)), some (pI (nI m)), some (pI (nI (i + 1))), none]) 6 rfl ?_
          refine ih () _ ⟨fun s hs => ?_, ?_, hC.tr (h4.tr ((FO.wl (Or.inl rfl)).tr FO.ways))⟩
          · show (sL (wL h 93 (va_cpy (h.2.1 95) (h.2.1 93) 0 0 (m + 1))) 92 11 _).2.1 93 s = _
            rw [rL_c (by decide), rWL_s, pk_cpy_in (by omega) (by omega), h1 _ (by omega)]; simp [VB]
          · rw [rL_s]; simp [tenL, Int64.mul_assoc]
        · exact (show False by omega).elim
      · obtain ⟨h1, h2, h3, h4⟩ := hI
        have hG := h4.fr.g hG
        have hf := (hC.tr h4).fr
        show J _ _ _ _ _ [some (pR (some 92)), some (pR (some th)), some (pI (nI w)), some (pI (nI k)), some (pI (nI m)), some (pI (nI i)), some (pI (nI j))] _ _ h
        refine J_iload dX2_weeksBack_12 rfl ?_
        refine J_iload dX2_weeksBack_14 rfl ?_
        refine J_icmp_gtN dX2_weeksBack_16 (by omega) (by omega) (fun c4 => ?_) (fun c4 => ?_)
        · exact (show False by omega).elim
        · refine J_aload_n dX2_weeksBack_19 rfl ?_
          refine J_getR (r := some 95) dX2_weeksBack_20 fX2_18 s92 (fun _ => rfl) (g92_2 hG) ?_
          refine J_iload dX2_weeksBack_23 rfl ?_
          refine J_aload_n dX2_weeksBack_25 rfl ?_
          refine J_aload_n dX2_weeksBack_26 rfl ?_
          refine J_aload_n dX2_weeksBack_27 rfl ?_
          refine J_getR (r := some (th + 1)) dX2_weeksBack_28 fX2_66 hth.s (fun _ => rfl) (hth.e10 hG) ?_
          refine J_iload_n dX2_weeksBack_31 rfl ?_
          refine J_aald7N (r := some (th + 2 + w)) dX2_weeksBack_32 hth.s1 (by decide) (by omega) (hth.ew hG (by omega)) ?_
          refine J_iload dX2_weeksBack_33 rfl ?_
          refine J_cVL (ci := 2) (c := 92) (as := [pR (some th), pR (some (th + 2 + w)), pI (nI j)]) (st := [pI (nI j), pR (some 95)]) dX2_weeksBack_35 lX2_70 okX2_valueBefore vX2_valueBefore s92 (by decide) rfl rfl rfl (Nat.le_of_ble_eq_true rfl) ⟨Nat.le_of_ble_eq_true rfl, Nat.le_of_ble_eq_true rfl⟩ CR.f (c_X2_valueBefore (ways := ways * tenL i) (V := h.2.1 93) hG hth hw (hT0.fr hf (by omega)) (hU0.fr hf (by omega)) ((hO0.fo hC).fo h4) ((congrFun h3 11).trans hB) rfl (by omega)) (fun v3 g3 e3 => ?_)
          obtain ⟨rfl, hq⟩ := e3
          have hG := hq.g hG
          refine J_lastN dX2_weeksBack_38 s95 (by decide) (by omega) ?_
          refine J_iincN (n := 1) (L' := [some (pR (some 92)), some (pR (some th)), some (pI (nI w)), some (pI (nI k)), some (pI (nI m)), some (pI (nI i)), some (pI (nI (j + 1)))]) dX2_weeksBack_39 rfl (by decide) rfl ?_
          refine J_goto dX2_weeksBack_42 ?_
          refine ih2 () _ ⟨fun s hs => ?_, ?_, ?_, h4.tr ((FO.of97 hq).tr (FO.sl (Or.inr rfl)))⟩
          · by_cases e : s = j
            · subst e; rw [rL_s]; exact vbN_congr (fun r hr => by rw [h2]; exact hA r (by omega)) 4
            · rw [rL_k e, hq.l (by omega)]; exact h1 s (by omega)
          · exact (rWL_c (by decide)).trans ((hq.1 93 (by omega)).2.trans h2)
          · exact (rWL_c (by decide)).trans ((hq.1 92 (by omega)).2.trans h3)
