theorem c_X9_putBytes {h : PH} {n : Nat} {x : Int32} (hG : GR h.2.2) (hn : h.1 0 1 = nI n) (bn : n + 4 ≤ 900) : CtV mX9_putBytes h [pR (some 0), pI x] (fun h' => TP 0 1 h h' (pt4 (h.1 1) n x) (n + 1 + 1 + 1 + 1)) := by
  refine Ct.of (L := [some (pR (some 0)), some (pI x), none]) rfl rfl (Nat.le_of_ble_eq_true rfl) rfl ?_
  refine J_bipush (x := nI 24) dX9_putBytes_0 (by decide) ?_
  refine J_istore_n (L' := [some (pR (some 0)), some (pI x), some (pI (nI 24))]) dX9_putBytes_2 (by decide) rfl ?_
  refine J_iload_n dX9_putBytes_3 rfl ?_
  refine J_if_lt dX9_putBytes_4 (fun c0 => absurd c0 (by decide)) (fun c0 => ?_)
  refine J_aload_n dX9_putBytes_7 rfl ?_
  refine J_getR (r := some 1) dX9_putBytes_8 fX9_9 s0 (fun _ => rfl) (g0_0 hG) ?_
  refine J_aload_n dX9_putBytes_11 rfl ?_
  refine J_getI dX9_putBytes_12 fX9_13 s0 (fun _ => rfl) ?_
  refine J_cvI (hn) ?_
  refine J_iload_n dX9_putBytes_15 rfl ?_
  refine J_iload_n dX9_putBytes_16 rfl ?_
  refine J_iushr dX9_putBytes_17 ?_
  refine J_i2b dX9_putBytes_18 ?_
  refine J_bastN dX9_putBytes_19 s1 (by decide) (by omega) ?_
  refine J_aload_n dX9_putBytes_20 rfl ?_
  refine J_dup dX9_putBytes_21 rfl ?_
  refine J_getI dX9_putBytes_22 fX9_13 s0 (fun _ => rfl) ?_
  refine J_cvI ((rI_c (by decide)).trans (hn)) ?_
  refine J_iconstN (n := 1) dX9_putBytes_25 ?_
  refine J_iaddN dX9_putBytes_26 ?_
  refine J_putI dX9_putBytes_27 fX9_13 s0 rfl (vp_nar_int _) rfl (fun _ _ => rfl) ?_
  refine J_iinc (y := nI 16) (L' := [some (pR (some 0)), some (pI x), some (pI (nI 16))]) dX9_putBytes_30 rfl (by decide) (by decide) rfl ?_
  refine J_goto dX9_putBytes_33 ?_
  refine J_iload_n dX9_putBytes_3 rfl ?_
  refine J_if_lt dX9_putBytes_4 (fun c0 => absurd c0 (by decide)) (fun c0 => ?_)
  refine J_aload_n dX9_putBytes_7 rfl ?_
  refine J_getR (r := some 1) dX9_putBytes_8 fX9_9 s0 (fun _ => rfl) ((xRI).trans ((xRI).trans (g0_0 hG))) ?_
  refine J_aload_n dX9_putBytes_11 rfl ?_
  refine J_getI dX9_putBytes_12 fX9_13 s0 (fun _ => rfl) ?_
  refine J_cvI (rI_s) ?_
  refine J_iload_n dX9_putBytes_15 rfl ?_
  refine J_iload_n dX9_putBytes_16 rfl ?_
  refine J_iushr dX9_putBytes_17 ?_
  refine J_i2b dX9_putBytes_18 ?_
  refine J_bastN dX9_putBytes_19 s1 (by decide) (by omega) ?_
  refine J_aload_n dX9_putBytes_20 rfl ?_
  refine J_dup dX9_putBytes_21 rfl ?_
  refine J_getI dX9_putBytes_22 fX9_13 s0 (fun _ => rfl) ?_
  refine J_cvI ((rI_c (by decide)).trans (rI_s)) ?_
  refine J_iconstN (n := 1) dX9_putBytes_25 ?_
  refine J_iaddN dX9_putBytes_26 ?_
  refine J_putI dX9_putBytes_27 fX9_13 s0 rfl (vp_nar_int _) rfl (fun _ _ => rfl) ?_
  refine J_iinc (y := nI 8) (L' := [some (pR (some 0)), some (pI x), some (pI (nI 8))]) dX9_putBytes_30 rfl (by decide) (by decide) rfl ?_
  refine J_goto dX9_putBytes_33 ?_
  refine J_iload_n dX9_putBytes_3 rfl ?_
  refine J_if_lt dX9_putBytes_4 (fun c0 => absurd c0 (by decide)) (fun c0 => ?_)
  refine J_aload_n dX9_putBytes_7 rfl ?_
  refine J_getR (r := some 1) dX9_putBytes_8 fX9_9 s0 (fun _ => rfl) ((xRI).trans ((xRI).trans ((xRI).trans ((xRI).trans (g0_0 hG))))) ?_
  refine J_aload_n dX9_putBytes_11 rfl ?_
  refine J_getI dX9_putBytes_12 fX9_13 s0 (fun _ => rfl) ?_
  refine J_cvI (rI_s) ?_
  refine J_iload_n dX9_putBytes_15 rfl ?_
  refine J_iload_n dX9_putBytes_16 rfl ?_
  refine J_iushr dX9_putBytes_17 ?_
  refine J_i2b dX9_putBytes_18 ?_
  refine J_bastN dX9_putBytes_19 s1 (by decide) (by omega) ?_
  refine J_aload_n dX9_putBytes_20 rfl ?_
  refine J_dup dX9_putBytes_21 rfl ?_
  refine J_getI dX9_putBytes_22 fX9_13 s0 (fun _ => rfl) ?_
  refine J_cvI ((rI_c (by decide)).trans (rI_s)) ?_
  refine J_iconstN (n := 1) dX9_putBytes_25 ?_
  refine J_iaddN dX9_putBytes_26 ?_
  refine J_putI dX9_putBytes_27 fX9_13 s0 rfl (vp_nar_int _) rfl (fun _ _ => rfl) ?_
  refine J_iinc (y := nI 0) (L' := [some (pR (some 0)), some (pI x), some (pI (nI 0))]) dX9_putBytes_30 rfl (by decide) (by decide) rfl ?_
  refine J_goto dX9_putBytes_33 ?_
  refine J_iload_n dX9_putBytes_3 rfl ?_
  refine J_if_lt dX9_putBytes_4 (fun c0 => absurd c0 (by decide)) (fun c0 => ?_)
  refine J_aload_n dX9_putBytes_7 rfl ?_
  refine J_getR (r := some 1) dX9_putBytes_8 fX9_9 s0 (fun _ => rfl) ((xRI).trans ((xRI).trans ((xRI).trans ((xRI).trans ((xRI).trans ((xRI).trans (g0_0 hG))))))) ?_
  refine J_aload_n dX9_putBytes_11 rfl ?_
  refine J_getI dX9_putBytes_12 fX9_13 s0 (fun _ => rfl) ?_
  refine J_cvI (rI_s) ?_
  refine J_iload_n dX9_putBytes_15 rfl ?_
  refine J_iload_n dX9_putBytes_16 rfl ?_
  refine J_iushr dX9_putBytes_17 ?_
  refine J_i2b dX9_putBytes_18 ?_
  refine J_bastN dX9_putBytes_19 s1 (by decide) (by omega) ?_
  refine J_aload_n dX9_putBytes_20 rfl ?_
  refine J_dup dX9_putBytes_21 rfl ?_
  refine J_getI dX9_putBytes_22 fX9_13 s0 (fun _ => rfl) ?_
  refine J_cvI ((rI_c (by decide)).trans (rI_s)) ?_
  refine J_iconstN (n := 1) dX9_putBytes_25 ?_
  refine J_iaddN dX9_putBytes_26 ?_
  refine J_putI dX9_putBytes_27 fX9_13 s0 rfl (vp_nar_int _) rfl (fun _ _ => rfl) ?_
  refine J_iinc (y := (-8)) (L' := [some (pR (some 0)), some (pI x), some (pI ((-8)))]) dX9_putBytes_30 rfl (by decide) (by decide) rfl ?_
  refine J_goto dX9_putBytes_33 ?_
  refine J_iload_n dX9_putBytes_3 rfl ?_
  refine J_if_lt dX9_putBytes_4 (fun c0 => ?_) (fun c0 => absurd c0 (by decide))
  exact J_retV dX9_putBytes_36 rfl (TP.st (c0 := 0) (c1 := 1) (k := n + 1 + 1 + 1) (by decide) (TP.st (c0 := 0) (c1 := 1) (k := n + 1 + 1) (by decide) (TP.st (c0 := 0) (c1 := 1) (k := n + 1) (by decide) (TP.st (c0 := 0) (c1 := 1) (k := n) (by decide) (show TP 0 1 h h (h.1 1) n from ⟨rfl, hn, FT.rf⟩) (by8_x (x := x) (s := 24) (by decide))) (by8_x (x := x) (s := 16) (by decide))) (by8_x (x := x) (s := 8) (by decide))) (by8_x (x := x) (s := 0) (by decide)))
theorem c_X9_feed {h : PH} {p : Nat} {A : AS} {a b c d e : Int32} (hG : GR h.2.2) (hX : XI h p A) (hW : WF A) : CtI mX9_feed h [pR (some 0), pI a, pI b, pI c, pI d, pI e] (fun v h' => v = (if aN A ≤ 880 then nI (aN A + 20) else -3) ∧ XP h h' p (if aN A ≤ 880 then wT A (pt20 (aT A) (aN A) a b c d e) (aN A + 20) else A)) := by
  have b9 := hW.1
  obtain ⟨n, en⟩ : ∃ n, n = aN A := ⟨_, rfl⟩
  have hn : h.1 0 1 = nI n := by rw [en]; exact hX.2.1.2
  rw [← en] at b9 ⊢
  refine Ct.of (L := [some (pR (some 0)), some (pI a), some (pI b), some (pI c), some (pI d), some (pI e)]) rfl rfl (Nat.le_of_ble_eq_true rfl) rfl ?_
  refine J_aload_n dX9_feed_0 rfl ?_
  refine J_getI dX9_feed_1 fX9_13 s0 (fun _ => rfl) ?_
  refine J_cvI (hn) ?_
  refine J_sipush (x := nI 880) dX9_feed_4 (by decide) ?_
  refine J_icmp_leN dX9_feed_7 (by omega) (by omega) (fun c1 => ?_) (fun c1 => ?_)
  · refine J_aload_n dX9_feed_13 rfl ?_
    refine J_iload_n dX9_feed_14 rfl ?_
    refine J_cVV (ci := 9) (c := 0) (as := [pI a]) (st := []) dX9_feed_15 lX9_70 okX9_putBytes vX9_putBytes s0 (by decide) rfl rfl rfl (Nat.le_of_ble_eq_true rfl) ⟨Nat.le_of_ble_eq_true rfl, Nat.le_of_ble_eq_true rfl⟩ CR.f (c_X9_putBytes hG hn (by omega)) (fun g1 t1 => ?_)
    have hG := t1.2.2.g hG
    refine J_aload_n dX9_feed_18 rfl ?_
    refine J_iload_n dX9_feed_19 rfl ?_
    refine J_cVV (ci := 9) (c := 0) (as := [pI b]) (st := []) dX9_feed_20 lX9_70 okX9_putBytes vX9_putBytes s0 (by decide) rfl rfl rfl (Nat.le_of_ble_eq_true rfl) ⟨Nat.le_of_ble_eq_true rfl, Nat.le_of_ble_eq_true rfl⟩ CR.f (c_X9_putBytes hG t1.2.1 (by omega)) (fun g2 t2 => ?_)
    have hG := t2.2.2.g hG
    refine J_aload_n dX9_feed_23 rfl ?_
    refine J_iload_n dX9_feed_24 rfl ?_
    refine J_cVV (ci := 9) (c := 0) (as := [pI c]) (st := []) dX9_feed_25 lX9_70 okX9_putBytes vX9_putBytes s0 (by decide) rfl rfl rfl (Nat.le_of_ble_eq_true rfl) ⟨Nat.le_of_ble_eq_true rfl, Nat.le_of_ble_eq_true rfl⟩ CR.f (c_X9_putBytes hG t2.2.1 (by omega)) (fun g3 t3 => ?_)
    have hG := t3.2.2.g hG
    refine J_aload_n dX9_feed_28 rfl ?_
    refine J_iload dX9_feed_29 rfl ?_
    refine J_cVV (ci := 9) (c := 0) (as := [pI d]) (st := []) dX9_feed_31 lX9_70 okX9_putBytes vX9_putBytes s0 (by decide) rfl rfl rfl (Nat.le_of_ble_eq_true rfl) ⟨Nat.le_of_ble_eq_true rfl, Nat.le_of_ble_eq_true rfl⟩ CR.f (c_X9_putBytes hG t3.2.1 (by omega)) (fun g4 t4 => ?_)
    have hG := t4.2.2.g hG
    refine J_aload_n dX9_feed_34 rfl ?_
    refine J_iload dX9_feed_35 rfl ?_
    refine J_cVV (ci := 9) (c := 0) (as := [pI e]) (st := []) dX9_feed_37 lX9_70 okX9_putBytes vX9_putBytes s0 (by decide) rfl rfl rfl (Nat.le_of_ble_eq_true rfl) ⟨Nat.le_of_ble_eq_true rfl, Nat.le_of_ble_eq_true rfl⟩ CR.f (c_X9_putBytes hG t4.2.1 (by omega)) (fun g5 t5 => ?_)
    have hG := t5.2.2.g hG
    refine J_aload_n dX9_feed_40 rfl ?_
    refine J_getI dX9_feed_41 fX9_13 s0 (fun _ => rfl) ?_
    refine J_cvI (t5.2.1) ?_
    exact J_retI dX9_feed_44 rfl ⟨(if_pos (by omega)).symm, by rw [if_pos (by omega)]; exact ⟨hX.tape hW (T := pt20 (h.1 1) n a b c d e) ⟨by rw [t5.1, t4.1, t3.1, t2.1, t1.1]; rfl, t5.2.1, t1.2.2.tr (t2.2.2.tr (t3.2.2.tr (t4.2.2.tr t5.2.2)))⟩ (fun i hi => pt20_cg (hX.2.1.1 i hi)), (t1.2.2.tr (t2.2.2.tr (t3.2.2.tr (t4.2.2.tr t5.2.2)))).fr (by omega) (by omega)⟩⟩
  · refine J_bipush (x := (-3)) dX9_feed_10 (by decide) ?_
    exact J_retI dX9_feed_12 rfl ⟨(if_neg (by omega)).symm, by rw [if_neg (by omega)]; exact ⟨hX, Fr.rf⟩⟩
theorem c_X10_feed {h : PH} {A : AS} {a b c d e : Int32} (hG : GR h.2.2) (hM : MI h A) (hW : WF A) : CtI mX10_feed h [pR (some 158), pI a, pI b, pI c, pI d, pI e] (fun v h' => v = (if aN A ≤ 880 then nI (aN A + 20) else -3) ∧ MP h h' (if aN A ≤ 880 then wT A (pt20 (aT A) (aN A) a b c d e) (aN A + 20) else A)) := by
  have b9 := hW.1
  obtain ⟨n, en⟩ : ∃ n, n = aN A := ⟨_, rfl⟩
  have hn : h.1 158 1 = nI n := by rw [en]; exact hM.1.2
  rw [← en] at b9 ⊢
  refine Ct.of (L := [some (pR (some 158)), some (pI a), some (pI b), some (pI c), some (pI d), some (pI e), none, none, none]) rfl rfl (Nat.le_of_ble_eq_true rfl) rfl ?_
  refine J_aload_n dX10_feed_0 rfl ?_
  refine J_getI dX10_feed_1 fX10_110 s158 (fun _ => rfl) ?_
  refine J_cvI (hn) ?_
  refine J_bipush (x := nI 20) dX10_feed_4 (by decide) ?_
  refine J_iaddN dX10_feed_6 ?_
  refine J_sipush (x := nI 900) dX10_feed_7 (by decide) ?_
  refine J_icmp_leN dX10_feed_10 (by omega) (by omega) (fun c1 => ?_) (fun c1 => ?_)
  · refine J_iconstN (n := 0) dX10_feed_16 ?_
    refine J_istore (L' := [some (pR (some 158)), some (pI a), some (pI b), some (pI c), some (pI d), some (pI e), some (pI (nI 0)), none, none]) dX10_feed_17 (by decide) rfl ?_
    refine J_iload dX10_feed_19 rfl ?_
    refine J_iconstN (n := 5) dX10_feed_21 ?_
    refine J_icmp_geN dX10_feed_22 (by decide) (by decide) (fun c0 => absurd c0 (by decide)) (fun c0 => ?_)
    refine J_iload dX10_feed_25 rfl ?_
    refine J_if_ne dX10_feed_27 (fun c0 => absurd c0 (by decide)) (fun c0 => ?_)
    refine J_iload_n dX10_feed_30 rfl ?_
    refine J_goto dX10_feed_31 ?_
    refine J_istore (L' := [some (pR (some 158)), some (pI a), some (pI b), some (pI c), some (pI d), some (pI e), some (pI (nI 0)), some (pI a), none]) dX10_feed_67 (by decide) rfl ?_
    refine J_bipush (x := nI 24) dX10_feed_69 (by decide) ?_
    refine J_istore (L' := [some (pR (some 158)), some (pI a), some (pI b), some (pI c), some (pI d), some (pI e), some (pI (nI 0)), some (pI a), some (pI (nI 24))]) dX10_feed_71 (by decide) rfl ?_
    refine J_iload dX10_feed_73 rfl ?_
    refine J_if_lt dX10_feed_75 (fun c0 => absurd c0 (by decide)) (fun c0 => ?_)
    refine J_aload_n dX10_feed_78 rfl ?_
    refine J_getR (r := some 159) dX10_feed_79 fX10_7 s158 (fun _ => rfl) (g158_0 hG) ?_
    refine J_aload_n dX10_feed_82 rfl ?_
    refine J_getI dX10_feed_83 fX10_110 s158 (fun _ => rfl) ?_
    refine J_cvI (hn) ?_
    refine J_iload dX10_feed_86 rfl ?_
    refine J_iload dX10_feed_88 rfl ?_
    refine J_ishr dX10_feed_90 ?_
    refine J_i2b dX10_feed_91 ?_
    refine J_bastN dX10_feed_92 s159 (by decide) (by omega) ?_
    refine J_aload_n dX10_feed_93 rfl ?_
    refine J_dup dX10_feed_94 rfl ?_
    refine J_getI dX10_feed_95 fX10_110 s158 (fun _ => rfl) ?_
    refine J_cvI ((rI_c (by decide)).trans (hn)) ?_
    refine J_iconstN (n := 1) dX10_feed_98 ?_
    refine J_iaddN dX10_feed_99 ?_
    refine J_putI dX10_feed_100 fX10_110 s158 rfl (vp_nar_int _) rfl (fun _ _ => rfl) ?_
    refine J_iinc (y := nI 16) (L' := [some (pR (some 158)), some (pI a), some (pI b), some (pI c), some (pI d), some (pI e), some (pI (nI 0)), some (pI a), some (pI (nI 16))]) dX10_feed_103 rfl (by decide) (by decide) rfl ?_
    refine J_goto dX10_feed_106 ?_
    refine J_iload dX10_feed_73 rfl ?_
    refine J_if_lt dX10_feed_75 (fun c0 => absurd c0 (by decide)) (fun c0 => ?_)
    refine J_aload_n dX10_feed_78 rfl ?_
    refine J_getR (r := some 159) dX10_feed_79 fX10_7 s158 (fun _ => rfl) ((xRI).trans ((xRI).trans (g158_0 hG))) ?_
    refine J_aload_n dX10_feed_82 rfl ?_
    refine J_getI dX10_feed_83 fX10_110 s158 (fun _ => rfl) ?_
    refine J_cvI (rI_s) ?_
    refine J_iload dX10_feed_86 rfl ?_
    refine J_iload dX10_feed_88 rfl ?_
    refine J_ishr dX10_feed_90 ?_
    refine J_i2b dX10_feed_91 ?_
    refine J_bastN dX10_feed_92 s159 (by decide) (by omega) ?_
    refine J_aload_n dX10_feed_93 rfl ?_
    refine J_dup dX10_feed_94 rfl ?_
    refine J_getI dX10_feed_95 fX10_110 s158 (fun _ => rfl) ?_
    refine J_cvI ((rI_c (by decide)).trans (rI_s)) ?_
    refine J_iconstN (n := 1) dX10_feed_98 ?_
    refine J_iaddN dX10_feed_99 ?_
    refine J_putI dX10_feed_100 fX10_110 s158 rfl (vp_nar_int _) rfl (fun _ _ => rfl) ?_
    refine J_iinc (y := nI 8) (L' := [some (pR (some 158)), some (pI a), some (pI b), some (pI c), some (pI d), some (pI e), some (pI (nI 0)), some (pI a), some (pI (nI 8))]) dX10_feed_103 rfl (by decide) (by decide) rfl ?_
    refine J_goto dX10_feed_106 ?_
    refine J_iload dX10_feed_73 rfl ?_
    refine J_if_lt dX10_feed_75 (fun c0 => absurd c0 (by decide)) (fun c0 => ?_)
    refine J_aload_n dX10_feed_78 rfl ?_
    refine J_getR (r := some 159) dX10_feed_79 fX10_7 s158 (fun _ => rfl) ((xRI).trans ((xRI).trans ((xRI).trans ((xRI).trans (g158_0 hG))))) ?_
    refine J_aload_n dX10_feed_82 rfl ?_
    refine J_getI dX10_feed_83 fX10_110 s158 (fun _ => rfl) ?_
    refine J_cvI (rI_s) ?_
    refine J_iload dX10_feed_86 rfl ?_
    refine J_iload dX10_feed_88 rfl ?_
    refine J_ishr dX10_feed_90 ?_
    refine J_i2b dX10_feed_91 ?_
    refine J_bastN dX10_feed_92 s159 (by decide) (by omega) ?_
    refine J_aload_n dX10_feed_93 rfl ?_
    refine J_dup dX10_feed_94 rfl ?_
    refine J_getI dX10_feed_95 fX10_110 s158 (fun _ => rfl) ?_
    refine J_cvI ((rI_c (by decide)).trans (rI_s)) ?_
    refine J_iconstN (n := 1) dX10_feed_98 ?_
    refine J_iaddN dX10_feed_99 ?_
    refine J_putI dX10_feed_100 fX10_110 s158 rfl (vp_nar_int _) rfl (fun _ _ => rfl) ?_
    refine J_iinc (y := nI 0) (L' := [some (pR (some 158)), some (pI a), some (pI b), some (pI c), some (pI d), some (pI e), some (pI (nI 0)), some (pI a), some (pI (nI 0))]) dX10_feed_103 rfl (by decide) (by decide) rfl ?_
    refine J_goto dX10_feed_106 ?_
    refine J_iload dX10_feed_73 rfl ?_
    refine J_if_lt dX10_feed_75 (fun c0 => absurd c0 (by decide)) (fun c0 => ?_)
    refine J_aload_n dX10_feed_78 rfl ?_
    refine J_getR (r := some 159) dX10_feed_79 fX10_7 s158 (fun _ => rfl) ((xRI).trans ((xRI).trans ((xRI).trans ((xRI).trans ((xRI).trans ((xRI).trans (g158_0 hG))))))) ?_
    refine J_aload_n dX10_feed_82 rfl ?_
    refine J_getI dX10_feed_83 fX10_110 s158 (fun _ => rfl) ?_
    refine J_cvI (rI_s) ?_
    refine J_iload dX10_feed_86 rfl ?_
    refine J_iload dX10_feed_88 rfl ?_
    refine J_ishr dX10_feed_90 ?_
    refine J_i2b dX10_feed_91 ?_
    refine J_bastN dX10_feed_92 s159 (by decide) (by omega) ?_
    refine J_aload_n dX10_feed_93 rfl ?_
    refine J_dup dX10_feed_94 rfl ?_
    refine J_getI dX10_feed_95 fX10_110 s158 (fun _ => rfl) ?_
    refine J_cvI ((rI_c (by decide)).trans (rI_s)) ?_
    refine J_iconstN (n := 1) dX10_feed_98 ?_
    refine J_iaddN dX10_feed_99 ?_
    refine J_putI dX10_feed_100 fX10_110 s158 rfl (vp_nar_int _) rfl (fun _ _ => rfl) ?_
    refine J_iinc (y := (-8)) (L' := [some (pR (some 158)), some (pI a), some (pI b), some (pI c), some (pI d), some (pI e), some (pI (nI 0)), some (pI a), some (pI ((-8)))]) dX10_feed_103 rfl (by decide) (by decide) rfl ?_
    refine J_goto dX10_feed_106 ?_
    refine J_iload dX10_feed_73 rfl ?_
    refine J_if_lt dX10_feed_75 (fun c0 => ?_) (fun c0 => absurd c0 (by decide))
    refine J_iinc (y := nI 1) (L' := [some (pR (some 158)), some (pI a), some (pI b), some (pI c), some (pI d), some (pI e), some (pI (nI 1)), some (pI a), some (pI ((-8)))]) dX10_feed_109 rfl (by decide) (by decide) rfl ?_
    refine J_goto dX10_feed_112 ?_
    refine J_iload dX10_feed_19 rfl ?_
    refine J_iconstN (n := 5) dX10_feed_21 ?_
    refine J_icmp_geN dX10_feed_22 (by decide) (by decide) (fun c0 => absurd c0 (by decide)) (fun c0 => ?_)
    refine J_iload dX10_feed_25 rfl ?_
    refine J_if_ne dX10_feed_27 (fun c0 => ?_) (fun c0 => absurd c0 (by decide))
    refine J_iload dX10_feed_34 rfl ?_
    refine J_iconstN (n := 1) dX10_feed_36 ?_
    refine J_icmp_neN dX10_feed_37 (by decide) (by decide) (fun c0 => absurd c0 (by decide)) (fun c0 => ?_)
    refine J_iload_n dX10_feed_40 rfl ?_
    refine J_goto dX10_feed_41 ?_
    refine J_istore (L' := [some (pR (some 158)), some (pI a), some (pI b), some (pI c), some (pI d), some (pI e), some (pI (nI 1)), some (pI b), some (pI ((-8)))]) dX10_feed_67 (by decide) rfl ?_
    refine J_bipush (x := nI 24) dX10_feed_69 (by decide) ?_
    refine J_istore (L' := [some (pR (some 158)), some (pI a), some (pI b), some (pI c), some (pI d), some (pI e), some (pI (nI 1)), some (pI b), some (pI (nI 24))]) dX10_feed_71 (by decide) rfl ?_
    refine J_iload dX10_feed_73 rfl ?_
    refine J_if_lt dX10_feed_75 (fun c0 => absurd c0 (by decide)) (fun c0 => ?_)
    refine J_aload_n dX10_feed_78 rfl ?_
    refine J_getR (r := some 159) dX10_feed_79 fX10_7 s158 (fun _ => rfl) ((xRI).trans ((xRI).trans ((xRI).trans ((xRI).trans ((xRI).trans ((xRI).trans ((xRI).trans ((xRI).trans (g158_0 hG))))))))) ?_
    refine J_aload_n dX10_feed_82 rfl ?_
    refine J_getI dX10_feed_83 fX10_110 s158 (fun _ => rfl) ?_
    refine J_cvI (rI_s) ?_
    refine J_iload dX10_feed_86 rfl ?_
    refine J_iload dX10_feed_88 rfl ?_
    refine J_ishr dX10_feed_90 ?_
    refine J_i2b dX10_feed_91 ?_
    refine J_bastN dX10_feed_92 s159 (by decide) (by omega) ?_
    refine J_aload_n dX10_feed_93 rfl ?_
    refine J_dup dX10_feed_94 rfl ?_
    refine J_getI dX10_feed_95 fX10_110 s158 (fun _ => rfl) ?_
    refine J_cvI ((rI_c (by decide)).trans (rI_s)) ?_
    refine J_iconstN (n := 1) dX10_feed_98 ?_
    refine J_iaddN dX10_feed_99 ?_
    refine J_putI dX10_feed_100 fX10_110 s158 rfl (vp_nar_int _) rfl (fun _ _ => rfl) ?_
    refine J_iinc (y := nI 16) (L' := [some (pR (some 158)), some (pI a), some (pI b), some (pI c), some (pI d), some (pI e), some (pI (nI 1)), some (pI b), some (pI (nI 16))]) dX10_feed_103 rfl (by decide) (by decide) rfl ?_
    refine J_goto dX10_feed_106 ?_
    refine J_iload dX10_feed_73 rfl ?_
    refine J_if_lt dX10_feed_75 (fun c0 => absurd c0 (by decide)) (fun c0 => ?_)
    refine J_aload_n dX10_feed_78 rfl ?_
    refine J_getR (r := some 159) dX10_feed_79 fX10_7 s158 (fun _ => rfl) ((xRI).trans ((xRI).trans ((xRI).trans ((xRI).trans ((xRI).trans ((xRI).trans ((xRI).trans ((xRI).trans ((xRI).trans ((xRI).trans (g158_0 hG))))))))))) ?_
    refine J_aload_n dX10_feed_82 rfl ?_
    refine J_getI dX10_feed_83 fX10_110 s158 (fun _ => rfl) ?_
    refine J_cvI (rI_s) ?_
    refine J_iload dX10_feed_86 rfl ?_
    refine J_iload dX10_feed_88 rfl ?_
    refine J_ishr dX10_feed_90 ?_
    refine J_i2b dX10_feed_91 ?_
    refine J_bastN dX10_feed_92 s159 (by decide) (by omega) ?_
    refine J_aload_n dX10_feed_93 rfl ?_
    refine J_dup dX10_feed_94 rfl ?_
    refine J_getI dX10_feed_95 fX10_110 s158 (fun _ => rfl) ?_
    refine J_cvI ((rI_c (by decide)).trans (rI_s)) ?_
    refine J_iconstN (n := 1) dX10_feed_98 ?_
    refine J_iaddN dX10_feed_99 ?_
    refine J_putI dX10_feed_100 fX10_110 s158 rfl (vp_nar_int _) rfl (fun _ _ => rfl) ?_
    refine J_iinc (y := nI 8) (L' := [some (pR (some 158)), some (pI a), some (pI b), some (pI c), some (pI d), some (pI e), some (pI (nI 1)), some (pI b), some (pI (nI 8))]) dX10_feed_103 rfl (by decide) (by decide) rfl ?_
    refine J_goto dX10_feed_106 ?_
    refine J_iload dX10_feed_73 rfl ?_
    refine J_if_lt dX10_feed_75 (fun c0 => absurd c0 (by decide)) (fun c0 => ?_)
    refine J_aload_n dX10_feed_78 rfl ?_
    refine J_getR (r := some 159) dX10_feed_79 fX10_7 s158 (fun _ => rfl) ((xRI).trans ((xRI).trans ((xRI).trans ((xRI).trans ((xRI).trans ((xRI).trans ((xRI).trans ((xRI).trans ((xRI).trans ((xRI).trans ((xRI).trans ((xRI).trans (g158_0 hG))))))))))))) ?_
    refine J_aload_n dX10_feed_82 rfl ?_
    refine J_getI dX10_feed_83 fX10_110 s158 (fun _ => rfl) ?_
    refine J_cvI (rI_s) ?_
    refine J_iload dX10_feed_86 rfl ?_
    refine J_iload dX10_feed_88 rfl ?_
    refine J_ishr dX10_feed_90 ?_
    refine J_i2b dX10_feed_91 ?_
    refine J_bastN dX10_feed_92 s159 (by decide) (by omega) ?_
    refine J_aload_n dX10_feed_93 rfl ?_
    refine J_dup dX10_feed_94 rfl ?_
    refine J_getI dX10_feed_95 fX10_110 s158 (fun _ => rfl) ?_
    refine J_cvI ((rI_c (by decide)).trans (rI_s)) ?_
    refine J_iconstN (n := 1) dX10_feed_98 ?_
    refine J_iaddN dX10_feed_99 ?_
    refine J_putI dX10_feed_100 fX10_110 s158 rfl (vp_nar_int _) rfl (fun _ _ => rfl) ?_
    refine J_iinc (y := nI 0) (L' := [some (pR (some 158)), some (pI a), some (pI b), some (pI c), some (pI d), some (pI e), some (pI (nI 1)), some (pI b), some (pI (nI 0))]) dX10_feed_103 rfl (by decide) (by decide) rfl ?_
    refine J_goto dX10_feed_106 ?_
    refine J_iload dX10_feed_73 rfl ?_
    refine J_if_lt dX10_feed_75 (fun c0 => absurd c0 (by decide)) (fun c0 => ?_)
    refine J_aload_n dX10_feed_78 rfl ?_
    refine J_getR (r := some 159) dX10_feed_79 fX10_7 s158 (fun _ => rfl) ((xRI).trans ((xRI).trans ((xRI).trans ((xRI).trans ((xRI).trans ((xRI).trans ((xRI).trans ((xRI).trans ((xRI).trans ((xRI).trans ((xRI).trans ((xRI).trans ((xRI).trans ((xRI).trans (g158_0 hG))))))))))))))) ?_
    refine J_aload_n dX10_feed_82 rfl ?_
    refine J_getI dX10_feed_83 fX10_110 s158 (fun _ => rfl) ?_
    refine J_cvI (rI_s) ?_
    refine J_iload dX10_feed_86 rfl ?_
    refine J_iload dX10_feed_88 rfl ?_
    refine J_ishr dX10_feed_90 ?_
    refine J_i2b dX10_feed_91 ?_
    refine J_bastN dX10_feed_92 s159 (by decide) (by omega) ?_
    refine J_aload_n dX10_feed_93 rfl ?_
    refine J_dup dX10_feed_94 rfl ?_
    refine J_getI dX10_feed_95 fX10_110 s158 (fun _ => rfl) ?_
    refine J_cvI ((rI_c (by decide)).trans (rI_s)) ?_
    refine J_iconstN (n := 1) dX10_feed_98 ?_
    refine J_iaddN dX10_feed_99 ?_
    refine J_putI dX10_feed_100 fX10_110 s158 rfl (vp_nar_int _) rfl (fun _ _ => rfl) ?_
    refine J_iinc (y := (-8)) (L' := [some (pR (some 158)), some (pI a), some (pI b), some (pI c), some (pI d), some (pI e), some (pI (nI 1)), some (pI b), some (pI ((-8)))]) dX10_feed_103 rfl (by decide) (by decide) rfl ?_
    refine J_goto dX10_feed_106 ?_
    refine J_iload dX10_feed_73 rfl ?_
    refine J_if_lt dX10_feed_75 (fun c0 => ?_) (fun c0 => absurd c0 (by decide))
    refine J_iinc (y := nI 2) (L' := [some (pR (some 158)), some (pI a), some (pI b), some (pI c), some (pI d), some (pI e), some (pI (nI 2)), some (pI b), some (pI ((-8)))]) dX10_feed_109 rfl (by decide) (by decide) rfl ?_
    refine J_goto dX10_feed_112 ?_
    refine J_iload dX10_feed_19 rfl ?_
    refine J_iconstN (n := 5) dX10_feed_21 ?_
    refine J_icmp_geN dX10_feed_22 (by decide) (by decide) (fun c0 => absurd c0 (by decide)) (fun c0 => ?_)
    refine J_iload dX10_feed_25 rfl ?_
    refine J_if_ne dX10_feed_27 (fun c0 => ?_) (fun c0 => absurd c0 (by decide))
    refine J_iload dX10_feed_34 rfl ?_
    refine J_iconstN (n := 1) dX10_feed_36 ?_
    refine J_icmp_neN dX10_feed_37 (by decide) (by decide) (fun c0 => ?_) (fun c0 => absurd c0 (by decide))
    refine J_iload dX10_feed_44 rfl ?_
    refine J_iconstN (n := 2) dX10_feed_46 ?_
    refine J_icmp_neN dX10_feed_47 (by decide) (by decide) (fun c0 => absurd c0 (by decide)) (fun c0 => ?_)
    refine J_iload_n dX10_feed_50 rfl ?_
    refine J_goto dX10_feed_51 ?_
    refine J_istore (L' := [some (pR (some 158)), some (pI a), some (pI b), some (pI c), some (pI d), some (pI e), some (pI (nI 2)), some (pI c), some (pI ((-8)))]) dX10_feed_67 (by decide) rfl ?_
    refine J_bipush (x := nI 24) dX10_feed_69 (by decide) ?_
    refine J_istore (L' := [some (pR (some 158)), some (pI a), some (pI b), some (pI c), some (pI d), some (pI e), some (pI (nI 2)), some (pI c), some (pI (nI 24))]) dX10_feed_71 (by decide) rfl ?_
    refine J_iload dX10_feed_73 rfl ?_
    refine J_if_lt dX10_feed_75 (fun c0 => absurd c0 (by decide)) (fun c0 => ?_)
    refine J_aload_n dX10_feed_78 rfl ?_
    refine J_getR (r := some 159) dX10_feed_79 fX10_7 s158 (fun _ => rfl) ((xRI).trans ((xRI).trans ((xRI).trans ((xRI).trans ((xRI).trans ((xRI).trans ((xRI).trans ((xRI).trans ((xRI).trans ((xRI).trans ((xRI).trans ((xRI).trans ((xRI).trans ((xRI).trans ((xRI).trans ((xRI).trans (g158_0 hG))))))))))))))))) ?_
    refine J_aload_n dX10_feed_82 rfl ?_
    refine J_getI dX10_feed_83 fX10_110 s158 (fun _ => rfl) ?_
    refine J_cvI (rI_s) ?_
    refine J_iload dX10_feed_86 rfl ?_
    refine J_iload dX10_feed_88 rfl ?_
    refine J_ishr dX10_feed_90 ?_
    refine J_i2b dX10_feed_91 ?_
    refine J_bastN dX10_feed_92 s159 (by decide) (by omega) ?_
    refine J_aload_n dX10_feed_93 rfl ?_
    refine J_dup dX10_feed_94 rfl ?_
    refine J_getI dX10_feed_95 fX10_110 s158 (fun _ => rfl) ?_
    refine J_cvI ((rI_c (by decide)).trans (rI_s)) ?_
    refine J_iconstN (n := 1) dX10_feed_98 ?_
    refine J_iaddN dX10_feed_99 ?_
    refine J_putI dX10_feed_100 fX10_110 s158 rfl (vp_nar_int _) rfl (fun _ _ => rfl) ?_
    refine J_iinc (y := nI 16) (L' := [some (pR (some 158)), some (pI a), some (pI b), some (pI c), some (pI d), some (pI e), some (pI (nI 2)), some (pI c), some (pI (nI 16))]) dX10_feed_103 rfl (by decide) (by decide) rfl ?_
    refine J_goto dX10_feed_106 ?_
    refine J_iload dX10_feed_73 rfl ?_
    refine J_if_lt dX10_feed_75 (fun c0 => absurd c0 (by decide)) (fun c0 => ?_)
    refine J_aload_n dX10_feed_78 rfl ?_
    refine J_getR (r := some 159) dX10_feed_79 fX10_7 s158 (fun _ => rfl) ((xRI).trans ((xRI).trans ((xRI).trans ((xRI).trans ((xRI).trans ((xRI).trans ((xRI).trans ((xRI).trans ((xRI).trans ((xRI).trans ((xRI).trans ((xRI).trans ((xRI).trans ((xRI).trans ((xRI).trans ((xRI).trans ((xRI).trans ((xRI).trans (g158_0 hG))))))))))))))))))) ?_
    refine J_aload_n dX10_feed_82 rfl ?_
    refine J_getI dX10_feed_83 fX10_110 s158 (fun _ => rfl) ?_
    refine J_cvI (rI_s) ?_
    refine J_iload dX10_feed_86 rfl ?_
    refine J_iload dX10_feed_88 rfl ?_
    refine J_ishr dX10_feed_90 ?_
    refine J_i2b dX10_feed_91 ?_
    refine J_bastN dX10_feed_92 s159 (by decide) (by omega) ?_
    refine J_aload_n dX10_feed_93 rfl ?_
    refine J_dup dX10_feed_94 rfl ?_
    refine J_getI dX10_feed_95 fX10_110 s158 (fun _ => rfl) ?_
    refine J_cvI ((rI_c (by decide)).trans (rI_s)) ?_
    refine J_iconstN (n := 1) dX10_feed_98 ?_
    refine J_iaddN dX10_feed_99 ?_
    refine J_putI dX10_feed_100 fX10_110 s158 rfl (vp_nar_int _) rfl (fun _ _ => rfl) ?_
    refine J_iinc (y := nI 8) (L' := [some (pR (some 158)), some (pI a), some (pI b), some (pI c), some (pI d), some (pI e), some (pI (nI 2)), some (pI c), some (pI (nI 8))]) dX10_feed_103 rfl (by decide) (by decide) rfl ?_
    refine J_goto dX10_feed_106 ?_
    refine J_iload dX10_feed_73 rfl ?_
    refine J_if_lt dX10_feed_75 (fun c0 => absurd c0 (by decide)) (fun c0 => ?_)
    refine J_aload_n dX10_feed_78 rfl ?_
    refine J_getR (r := some 159) dX10_feed_79 fX10_7 s158 (fun _ => rfl) ((xRI).trans ((xRI).trans ((xRI).trans ((xRI).trans ((xRI).trans ((xRI).trans ((xRI).trans ((xRI).trans ((xRI).trans ((xRI).trans ((xRI).trans ((xRI).trans ((xRI).trans ((xRI).trans ((xRI).trans ((xRI).trans ((xRI).trans ((xRI).trans ((xRI).trans ((xRI).trans (g158_0 hG))))))))))))))))))))) ?_
    refine J_aload_n dX10_feed_82 rfl ?_
    refine J_getI dX10_feed_83 fX10_110 s158 (fun _ => rfl) ?_
    refine J_cvI (rI_s) ?_
    refine J_iload dX10_feed_86 rfl ?_
    refine J_iload dX10_feed_88 rfl ?_
    refine J_ishr dX10_feed_90 ?_
    refine J_i2b dX10_feed_91 ?_
    refine J_bastN dX10_feed_92 s159 (by decide) (by omega) ?_
    refine J_aload_n dX10_feed_93 rfl ?_
    refine J_dup dX10_feed_94 rfl ?_
    refine J_getI dX10_feed_95 fX10_110 s158 (fun _ => rfl) ?_
    refine J_cvI ((rI_c (by decide)).trans (rI_s)) ?_
    refine J_iconstN (n := 1) dX10_feed_98 ?_
    refine J_iaddN dX10_feed_99 ?_
    refine J_putI dX10_feed_100 fX10_110 s158 rfl (vp_nar_int _) rfl (fun _ _ => rfl) ?_
    refine J_iinc (y := nI 0) (L' := [some (pR (some 158)), some (pI a), some (pI b), some (pI c), some (pI d), some (pI e), some (pI (nI 2)), some (pI c), some (pI (nI 0))]) dX10_feed_103 rfl (by decide) (by decide) rfl ?_
    refine J_goto dX10_feed_106 ?_
    refine J_iload dX10_feed_73 rfl ?_
    refine J_if_lt dX10_feed_75 (fun c0 => absurd c0 (by decide)) (fun c0 => ?_)
    refine J_aload_n dX10_feed_78 rfl ?_
    refine J_getR (r := some 159) dX10_feed_79 fX10_7 s158 (fun _ => rfl) ((xRI).trans ((xRI).trans ((xRI).trans ((xRI).trans ((xRI).trans ((xRI).trans ((xRI).trans ((xRI).trans ((xRI).trans ((xRI).trans ((xRI).trans ((xRI).trans ((xRI).trans ((xRI).trans ((xRI).trans ((xRI).trans ((xRI).trans ((xRI).trans ((xRI).trans ((xRI).trans ((xRI).trans ((xRI).trans (g158_0 hG))))))))))))))))))))))) ?_
    refine J_aload_n dX10_feed_82 rfl ?_
    refine J_getI dX10_feed_83 fX10_110 s158 (fun _ => rfl) ?_
    refine J_cvI (rI_s) ?_
    refine J_iload dX10_feed_86 rfl ?_
    refine J_iload dX10_feed_88 rfl ?_
    refine J_ishr dX10_feed_90 ?_
    refine J_i2b dX10_feed_91 ?_
    refine J_bastN dX10_feed_92 s159 (by decide) (by omega) ?_
    refine J_aload_n dX10_feed_93 rfl ?_
    refine J_dup dX10_feed_94 rfl ?_
    refine J_getI dX10_feed_95 fX10_110 s158 (fun _ => rfl) ?_
    refine J_cvI ((rI_c (by decide)).trans (rI_s)) ?_
    refine J_iconstN (n := 1) dX10_feed_98 ?_
    refine J_iaddN dX10_feed_99 ?_
    refine J_putI dX10_feed_100 fX10_110 s158 rfl (vp_nar_int _) rfl (fun _ _ => rfl) ?_
    refine J_iinc (y := (-8)) (L' := [some (pR (some 158)), some (pI a), some (pI b), some (pI c), some (pI d), some (pI e), some (pI (nI 2)), some (pI c), some (pI ((-8)))]) dX10_feed_103 rfl (by decide) (by decide) rfl ?_
    refine J_goto dX10_feed_106 ?_
    refine J_iload dX10_feed_73 rfl ?_
    refine J_if_lt dX10_feed_75 (fun c0 => ?_) (fun c0 => absurd c0 (by decide))
    refine J_iinc (y := nI 3) (L' := [some (pR (some 158)), some (pI a), some (pI b), some (pI c), some (pI d), some (pI e), some (pI (nI 3)), some (pI c), some (pI ((-8)))]) dX10_feed_109 rfl (by decide) (by decide) rfl ?_
    refine J_goto dX10_feed_112 ?_
    refine J_iload dX10_feed_19 rfl ?_
    refine J_iconstN (n := 5) dX10_feed_21 ?_
    refine J_icmp_geN dX10_feed_22 (by decide) (by decide) (fun c0 => absurd c0 (by decide)) (fun c0 => ?_)
    refine J_iload dX10_feed_25 rfl ?_
    refine J_if_ne dX10_feed_27 (fun c0 => ?_) (fun c0 => absurd c0 (by decide))
    refine J_iload dX10_feed_34 rfl ?_
    refine J_iconstN (n := 1) dX10_feed_36 ?_
    refine J_icmp_neN dX10_feed_37 (by decide) (by decide) (fun c0 => ?_) (fun c0 => absurd c0 (by decide))
    refine J_iload dX10_feed_44 rfl ?_
    refine J_iconstN (n := 2) dX10_feed_46 ?_
    refine J_icmp_neN dX10_feed_47 (by decide) (by decide) (fun c0 => ?_) (fun c0 => absurd c0 (by decide))
    refine J_iload dX10_feed_54 rfl ?_
    refine J_iconstN (n := 3) dX10_feed_56 ?_
    refine J_icmp_neN dX10_feed_57 (by decide) (by decide) (fun c0 => absurd c0 (by decide)) (fun c0 => ?_)
    refine J_iload dX10_feed_60 rfl ?_
    refine J_goto dX10_feed_62 ?_
    refine J_istore (L' := [some (pR (some 158)), some (pI a), some (pI b), some (pI c), some (pI d), some (pI e), some (pI (nI 3)), some (pI d), some (pI ((-8)))]) dX10_feed_67 (by decide) rfl ?_
    refine J_bipush (x := nI 24) dX10_feed_69 (by decide) ?_
    refine J_istore (L' := [some (pR (some 158)), some (pI a), some (pI b), some (pI c), some (pI d), some (pI e), some (pI (nI 3)), some (pI d), some (pI (nI 24))]) dX10_feed_71 (by decide) rfl ?_
    refine J_iload dX10_feed_73 rfl ?_
    refine J_if_lt dX10_feed_75 (fun c0 => absurd c0 (by decide)) (fun c0 => ?_)
    refine J_aload_n dX10_feed_78 rfl ?_
    refine J_getR (r := some 159) dX10_feed_79 fX10_7 s158 (fun _ => rfl) ((xRI).trans ((xRI).trans ((xRI).trans ((xRI).trans ((xRI).trans ((xRI).trans ((xRI).trans ((xRI).trans ((xRI).trans ((xRI).trans ((xRI).trans ((xRI).trans ((xRI).trans ((xRI).trans ((xRI).trans ((xRI).trans ((xRI).trans ((xRI).trans ((xRI).trans ((xRI).trans ((xRI).trans ((xRI).trans ((xRI).trans ((xRI).trans (g158_0 hG))))))))))))))))))))))))) ?_
    refine J_aload_n dX10_feed_82 rfl ?_
    refine J_getI dX10_feed_83 fX10_110 s158 (fun _ => rfl) ?_
    refine J_cvI (rI_s) ?_
    refine J_iload dX10_feed_86 rfl ?_
    refine J_iload dX10_feed_88 rfl ?_
    refine J_ishr dX10_feed_90 ?_
    refine J_i2b dX10_feed_91 ?_
    refine J_bastN dX10_feed_92 s159 (by decide) (by omega) ?_
    refine J_aload_n dX10_feed_93 rfl ?_
    refine J_dup dX10_feed_94 rfl ?_
    refine J_getI dX10_feed_95 fX10_110 s158 (fun _ => rfl) ?_
    refine J_cvI ((rI_c (by decide)).trans (rI_s)) ?_
    refine J_iconstN (n := 1) dX10_feed_98 ?_
    refine J_iaddN dX10_feed_99 ?_
    refine J_putI dX10_feed_100 fX10_110 s158 rfl (vp_nar_int _) rfl (fun _ _ => rfl) ?_
    refine J_iinc (y := nI 16) (L' := [some (pR (some 158)), some (pI a), some (pI b), some (pI c), some (pI d), some (pI e), some (pI (nI 3)), some (pI d), some (pI (nI 16))]) dX10_feed_103 rfl (by decide) (by decide) rfl ?_
    refine J_goto dX10_feed_106 ?_
    refine J_iload dX10_feed_73 rfl ?_
    refine J_if_lt dX10_feed_75 (fun c0 => absurd c0 (by decide)) (fun c0 => ?_)
    refine J_aload_n dX10_feed_78 rfl ?_
    refine J_getR (r := some 159) dX10_feed_79 fX10_7 s158 (fun _ => rfl) ((xRI).trans ((xRI).trans ((xRI).trans ((xRI).trans ((xRI).trans ((xRI).trans ((xRI).trans ((xRI).trans ((xRI).trans ((xRI).trans ((xRI).trans ((xRI).trans ((xRI).trans ((xRI).trans ((xRI).trans ((xRI).trans ((xRI).trans ((xRI).trans ((xRI).trans ((xRI).trans ((xRI).trans ((xRI).trans ((xRI).trans ((xRI).trans ((xRI).trans ((xRI).trans (g158_0 hG))))))))))))))))))))))))))) ?_
    refine J_aload_n dX10_feed_82 rfl ?_
    refine J_getI dX10_feed_83 fX10_110 s158 (fun _ => rfl) ?_
    refine J_cvI (rI_s) ?_
    refine J_iload dX10_feed_86 rfl ?_
    refine J_iload dX10_feed_88 rfl ?_
    refine J_ishr dX10_feed_90 ?_
    refine J_i2b dX10_feed_91 ?_
    refine J_bastN dX10_feed_92 s159 (by decide) (by omega) ?_
    refine J_aload_n dX10_feed_93 rfl ?_
    refine J_dup dX10_feed_94 rfl ?_
    refine J_getI dX10_feed_95 fX10_110 s158 (fun _ => rfl) ?_
    refine J_cvI ((rI_c (by decide)).trans (rI_s)) ?_
    refine J_iconstN (n := 1) dX10_feed_98 ?_
    refine J_iaddN dX10_feed_99 ?_
    refine J_putI dX10_feed_100 fX10_110 s158 rfl (vp_nar_int _) rfl (fun _ _ => rfl) ?_
    refine J_iinc (y := nI 8) (L' := [some (pR (some 158)), some (pI a), some (pI b), some (pI c), some (pI d), some (pI e), some (pI (nI 3)), some (pI d), some (pI (nI 8))]) dX10_feed_103 rfl (by decide) (by decide) rfl ?_
    refine J_goto dX10_feed_106 ?_
    refine J_iload dX10_feed_73 rfl ?_
    refine J_if_lt dX10_feed_75 (fun c0 => absurd c0 (by decide)) (fun c0 => ?_)
    refine J_aload_n dX10_feed_78 rfl ?_
    refine J_getR (r := some 159) dX10_feed_79 fX10_7 s158 (fun _ => rfl) ((xRI).trans ((xRI).trans ((xRI).trans ((xRI).trans ((xRI).trans ((xRI).trans ((xRI).trans ((xRI).trans ((xRI).trans ((xRI).trans ((xRI).trans ((xRI).trans ((xRI).trans ((xRI).trans ((xRI).trans ((xRI).trans ((xRI).trans ((xRI).trans ((xRI).trans ((xRI).trans ((xRI).trans ((xRI).trans ((xRI).trans ((xRI).trans ((xRI).trans ((xRI).trans ((xRI).trans ((xRI).trans (g158_0 hG))))))))))))))))))))))))))))) ?_
    refine J_aload_n dX10_feed_82 rfl ?_
    refine J_getI dX10_feed_83 fX10_110 s158 (fun _ => rfl) ?_
    refine J_cvI (rI_s) ?_
    refine J_iload dX10_feed_86 rfl ?_
    refine J_iload dX10_feed_88 rfl ?_
    refine J_ishr dX10_feed_90 ?_
    refine J_i2b dX10_feed_91 ?_
    refine J_bastN dX10_feed_92 s159 (by decide) (by omega) ?_
    refine J_aload_n dX10_feed_93 rfl ?_
    refine J_dup dX10_feed_94 rfl ?_
    refine J_getI dX10_feed_95 fX10_110 s158 (fun _ => rfl) ?_
    refine J_cvI ((rI_c (by decide)).trans (rI_s)) ?_
    refine J_iconstN (n := 1) dX10_feed_98 ?_
    refine J_iaddN dX10_feed_99 ?_
    refine J_putI dX10_feed_100 fX10_110 s158 rfl (vp_nar_int _) rfl (fun _ _ => rfl) ?_
    refine J_iinc (y := nI 0) (L' := [some (pR (some 158)), some (pI a), some (pI b), some (pI c), some (pI d), some (pI e), some (pI (nI 3)), some (pI d), some (pI (nI 0))]) dX10_feed_103 rfl (by decide) (by decide) rfl ?_
    refine J_goto dX10_feed_106 ?_
    refine J_iload dX10_feed_73 rfl ?_
    refine J_if_lt dX10_feed_75 (fun c0 => absurd c0 (by decide)) (fun c0 => ?_)
    refine J_aload_n dX10_feed_78 rfl ?_
    refine J_getR (r := some 159) dX10_feed_79 fX10_7 s158 (fun _ => rfl) ((xRI).trans ((xRI).trans ((xRI).trans ((xRI).trans ((xRI).trans ((xRI).trans ((xRI).trans ((xRI).trans ((xRI).trans ((xRI).trans ((xRI).trans ((xRI).trans ((xRI).trans ((xRI).trans ((xRI).trans ((xRI).trans ((xRI).trans ((xRI).trans ((xRI).trans ((xRI).trans ((xRI).trans ((xRI).trans ((xRI).trans ((xRI).trans ((xRI).trans ((xRI).trans ((xRI).trans ((xRI).trans ((xRI).trans ((xRI).trans (g158_0 hG))))))))))))))))))))))))))))))) ?_
    refine J_aload_n dX10_feed_82 rfl ?_
    refine J_getI dX10_feed_83 fX10_110 s158 (fun _ => rfl) ?_
    refine J_cvI (rI_s) ?_
    refine J_iload dX10_feed_86 rfl ?_
    refine J_iload dX10_feed_88 rfl ?_
    refine J_ishr dX10_feed_90 ?_
    refine J_i2b dX10_feed_91 ?_
    refine J_bastN dX10_feed_92 s159 (by decide) (by omega) ?_
    refine J_aload_n dX10_feed_93 rfl ?_
    refine J_dup dX10_feed_94 rfl ?_
    refine J_getI dX10_feed_95 fX10_110 s158 (fun _ => rfl) ?_
    refine J_cvI ((rI_c (by decide)).trans (rI_s)) ?_
    refine J_iconstN (n := 1) dX10_feed_98 ?_
    refine J_iaddN dX10_feed_99 ?_
    refine J_putI dX10_feed_100 fX10_110 s158 rfl (vp_nar_int _) rfl (fun _ _ => rfl) ?_
    refine J_iinc (y := (-8)) (L' := [some (pR (some 158)), some (pI a), some (pI b), some (pI c), some (pI d), some (pI e), some (pI (nI 3)), some (pI d), some (pI ((-8)))]) dX10_feed_103 rfl (by decide) (by decide) rfl ?_
    refine J_goto dX10_feed_106 ?_
    refine J_iload dX10_feed_73 rfl ?_
    refine J_if_lt dX10_feed_75 (fun c0 => ?_) (fun c0 => absurd c0 (by decide))
    refine J_iinc (y := nI 4) (L' := [some (pR (some 158)), some (pI a), some (pI b), some (pI c), some (pI d), some (pI e), some (pI (nI 4)), some (pI d), some (pI ((-8)))]) dX10_feed_109 rfl (by decide) (by decide) rfl ?_
    refine J_goto dX10_feed_112 ?_
    refine J_iload dX10_feed_19 rfl ?_
    refine J_iconstN (n := 5) dX10_feed_21 ?_
    refine J_icmp_geN dX10_feed_22 (by decide) (by decide) (fun c0 => absurd c0 (by decide)) (fun c0 => ?_)
    refine J_iload dX10_feed_25 rfl ?_
    refine J_if_ne dX10_feed_27 (fun c0 => ?_) (fun c0 => absurd c0 (by decide))
    refine J_iload dX10_feed_34 rfl ?_
    refine J_iconstN (n := 1) dX10_feed_36 ?_
    refine J_icmp_neN dX10_feed_37 (by decide) (by decide) (fun c0 => ?_) (fun c0 => absurd c0 (by decide))
    refine J_iload dX10_feed_44 rfl ?_
    refine J_iconstN (n := 2) dX10_feed_46 ?_
    refine J_icmp_neN dX10_feed_47 (by decide) (by decide) (fun c0 => ?_) (fun c0 => absurd c0 (by decide))
    refine J_iload dX10_feed_54 rfl ?_
    refine J_iconstN (n := 3) dX10_feed_56 ?_
    refine J_icmp_neN dX10_feed_57 (by decide) (by decide) (fun c0 => ?_) (fun c0 => absurd c0 (by decide))
    refine J_iload dX10_feed_65 rfl ?_
    refine J_istore (L' := [some (pR (some 158)), some (pI a), some (pI b), some (pI c), some (pI d), some (pI e), some (pI (nI 4)), some (pI e), some (pI ((-8)))]) dX10_feed_67 (by decide) rfl ?_
    refine J_bipush (x := nI 24) dX10_feed_69 (by decide) ?_
    refine J_istore (L' := [some (pR (some 158)), some (pI a), some (pI b), some (pI c), some (pI d), some (pI e), some (pI (nI 4)), some (pI e), some (pI (nI 24))]) dX10_feed_71 (by decide) rfl ?_
    refine J_iload dX10_feed_73 rfl ?_
    refine J_if_lt dX10_feed_75 (fun c0 => absurd c0 (by decide)) (fun c0 => ?_)
    refine J_aload_n dX10_feed_78 rfl ?_
    refine J_getR (r := some 159) dX10_feed_79 fX10_7 s158 (fun _ => rfl) ((xRI).trans ((xRI).trans ((xRI).trans ((xRI).trans ((xRI).trans ((xRI).trans ((xRI).trans ((xRI).trans ((xRI).trans ((xRI).trans ((xRI).trans ((xRI).trans ((xRI).trans ((xRI).trans ((xRI).trans ((xRI).trans ((xRI).trans ((xRI).trans ((xRI).trans ((xRI).trans ((xRI).trans ((xRI).trans ((xRI).trans ((xRI).trans ((xRI).trans ((xRI).trans ((xRI).trans ((xRI).trans ((xRI).trans ((xRI).trans ((xRI).trans ((xRI).trans (g158_0 hG))))))))))))))))))))))))))))))))) ?_
    refine J_aload_n dX10_feed_82 rfl ?_
    refine J_getI dX10_feed_83 fX10_110 s158 (fun _ => rfl) ?_
    refine J_cvI (rI_s) ?_
    refine J_iload dX10_feed_86 rfl ?_
    refine J_iload dX10_feed_88 rfl ?_
    refine J_ishr dX10_feed_90 ?_
    refine J_i2b dX10_feed_91 ?_
    refine J_bastN dX10_feed_92 s159 (by decide) (by omega) ?_
    refine J_aload_n dX10_feed_93 rfl ?_
    refine J_dup dX10_feed_94 rfl ?_
    refine J_getI dX10_feed_95 fX10_110 s158 (fun _ => rfl) ?_
    refine J_cvI ((rI_c (by decide)).trans (rI_s)) ?_
    refine J_iconstN (n := 1) dX10_feed_98 ?_
    refine J_iaddN dX10_feed_99 ?_
    refine J_putI dX10_feed_100 fX10_110 s158 rfl (vp_nar_int _) rfl (fun _ _ => rfl) ?_
    refine J_iinc (y := nI 16) (L' := [some (pR (some 158)), some (pI a), some (pI b), some (pI c), some (pI d), some (pI e), some (pI (nI 4)), some (pI e), some (pI (nI 16))]) dX10_feed_103 rfl (by decide) (by decide) rfl ?_
    refine J_goto dX10_feed_106 ?_
    refine J_iload dX10_feed_73 rfl ?_
    refine J_if_lt dX10_feed_75 (fun c0 => absurd c0 (by decide)) (fun c0 => ?_)
    refine J_aload_n dX10_feed_78 rfl ?_
    refine J_getR (r := some 159) dX10_feed_79 fX10_7 s158 (fun _ => rfl) ((xRI).trans ((xRI).trans ((xRI).trans ((xRI).trans ((xRI).trans ((xRI).trans ((xRI).trans ((xRI).trans ((xRI).trans ((xRI).trans ((xRI).trans ((xRI).trans ((xRI).trans ((xRI).trans ((xRI).trans ((xRI).trans ((xRI).trans ((xRI).trans ((xRI).trans ((xRI).trans ((xRI).trans ((xRI).trans ((xRI).trans ((xRI).trans ((xRI).trans ((xRI).trans ((xRI).trans ((xRI).trans ((xRI).trans ((xRI).trans ((xRI).trans ((xRI).trans ((xRI).trans ((xRI).trans (g158_0 hG))))))))))))))))))))))))))))))))))) ?_
    refine J_aload_n dX10_feed_82 rfl ?_
    refine J_getI dX10_feed_83 fX10_110 s158 (fun _ => rfl) ?_
    refine J_cvI (rI_s) ?_
    refine J_iload dX10_feed_86 rfl ?_
    refine J_iload dX10_feed_88 rfl ?_
    refine J_ishr dX10_feed_90 ?_
    refine J_i2b dX10_feed_91 ?_
    refine J_bastN dX10_feed_92 s159 (by decide) (by omega) ?_
    refine J_aload_n dX10_feed_93 rfl ?_
    refine J_dup dX10_feed_94 rfl ?_
    refine J_getI dX10_feed_95 fX10_110 s158 (fun _ => rfl) ?_
    refine J_cvI ((rI_c (by decide)).trans (rI_s)) ?_
    refine J_iconstN (n := 1) dX10_feed_98 ?_
    refine J_iaddN dX10_feed_99 ?_
    refine J_putI dX10_feed_100 fX10_110 s158 rfl (vp_nar_int _) rfl (fun _ _ => rfl) ?_
    refine J_iinc (y := nI 8) (L' := [some (pR (some 158)), some (pI a), some (pI b), some (pI c), some (pI d), some (pI e), some (pI (nI 4)), some (pI e), some (pI (nI 8))]) dX10_feed_103 rfl (by decide) (by decide) rfl ?_
    refine J_goto dX10_feed_106 ?_
    refine J_iload dX10_feed_73 rfl ?_
    refine J_if_lt dX10_feed_75 (fun c0 => absurd c0 (by decide)) (fun c0 => ?_)
    refine J_aload_n dX10_feed_78 rfl ?_
    refine J_getR (r := some 159) dX10_feed_79 fX10_7 s158 (fun _ => rfl) ((xRI).trans ((xRI).trans ((xRI).trans ((xRI).trans ((xRI).trans ((xRI).trans ((xRI).trans ((xRI).trans ((xRI).trans ((xRI).trans ((xRI).trans ((xRI).trans ((xRI).trans ((xRI).trans ((xRI).trans ((xRI).trans ((xRI).trans ((xRI).trans ((xRI).trans ((xRI).trans ((xRI).trans ((xRI).trans ((xRI).trans ((xRI).trans ((xRI).trans ((xRI).trans ((xRI).trans ((xRI).trans ((xRI).trans ((xRI).trans ((xRI).trans ((xRI).trans ((xRI).trans ((xRI).trans ((xRI).trans ((xRI).trans (g158_0 hG))))))))))))))))))))))))))))))))))))) ?_
    refine J_aload_n dX10_feed_82 rfl ?_
    refine J_getI dX10_feed_83 fX10_110 s158 (fun _ => rfl) ?_
    refine J_cvI (rI_s) ?_
    refine J_iload dX10_feed_86 rfl ?_
    refine J_iload dX10_feed_88 rfl ?_
    refine J_ishr dX10_feed_90 ?_
    refine J_i2b dX10_feed_91 ?_
    refine J_bastN dX10_feed_92 s159 (by decide) (by omega) ?_
    refine J_aload_n dX10_feed_93 rfl ?_
    refine J_dup dX10_feed_94 rfl ?_
    refine J_getI dX10_feed_95 fX10_110 s158 (fun _ => rfl) ?_
    refine J_cvI ((rI_c (by decide)).trans (rI_s)) ?_
    refine J_iconstN (n := 1) dX10_feed_98 ?_
    refine J_iaddN dX10_feed_99 ?_
    refine J_putI dX10_feed_100 fX10_110 s158 rfl (vp_nar_int _) rfl (fun _ _ => rfl) ?_
    refine J_iinc (y := nI 0) (L' := [some (pR (some 158)), some (pI a), some (pI b), some (pI c), some (pI d), some (pI e), some (pI (nI 4)), some (pI e), some (pI (nI 0))]) dX10_feed_103 rfl (by decide) (by decide) rfl ?_
    refine J_goto dX10_feed_106 ?_
    refine J_iload dX10_feed_73 rfl ?_
    refine J_if_lt dX10_feed_75 (fun c0 => absurd c0 (by decide)) (fun c0 => ?_)
    refine J_aload_n dX10_feed_78 rfl ?_
    refine J_getR (r := some 159) dX10_feed_79 fX10_7 s158 (fun _ => rfl) ((xRI).trans ((xRI).trans ((xRI).trans ((xRI).trans ((xRI).trans ((xRI).trans ((xRI).trans ((xRI).trans ((xRI).trans ((xRI).trans ((xRI).trans ((xRI).trans ((xRI).trans ((xRI).trans ((xRI).trans ((xRI).trans ((xRI).trans ((xRI).trans ((xRI).trans ((xRI).trans ((xRI).trans ((xRI).trans ((xRI).trans ((xRI).trans ((xRI).trans ((xRI).trans ((xRI).trans ((xRI).trans ((xRI).trans ((xRI).trans ((xRI).trans ((xRI).trans ((xRI).trans ((xRI).trans ((xRI).trans ((xRI).trans ((xRI).trans ((xRI).trans (g158_0 hG))))))))))))))))))))))))))))))))))))))) ?_
    refine J_aload_n dX10_feed_82 rfl ?_
    refine J_getI dX10_feed_83 fX10_110 s158 (fun _ => rfl) ?_
    refine J_cvI (rI_s) ?_
    refine J_iload dX10_feed_86 rfl ?_
    refine J_iload dX10_feed_88 rfl ?_
    refine J_ishr dX10_feed_90 ?_
    refine J_i2b dX10_feed_91 ?_
    refine J_bastN dX10_feed_92 s159 (by decide) (by omega) ?_
    refine J_aload_n dX10_feed_93 rfl ?_
    refine J_dup dX10_feed_94 rfl ?_
    refine J_getI dX10_feed_95 fX10_110 s158 (fun _ => rfl) ?_
    refine J_cvI ((rI_c (by decide)).trans (rI_s)) ?_
    refine J_iconstN (n := 1) dX10_feed_98 ?_
    refine J_iaddN dX10_feed_99 ?_
    refine J_putI dX10_feed_100 fX10_110 s158 rfl (vp_nar_int _) rfl (fun _ _ => rfl) ?_
    refine J_iinc (y := (-8)) (L' := [some (pR (some 158)), some (pI a), some (pI b), some (pI c), some (pI d), some (pI e), some (pI (nI 4)), some (pI e), some (pI ((-8)))]) dX10_feed_103 rfl (by decide) (by decide) rfl ?_
    refine J_goto dX10_feed_106 ?_
    refine J_iload dX10_feed_73 rfl ?_
    refine J_if_lt dX10_feed_75 (fun c0 => ?_) (fun c0 => absurd c0 (by decide))
    refine J_iinc (y := nI 5) (L' := [some (pR (some 158)), some (pI a), some (pI b), some (pI c), some (pI d), some (pI e), some (pI (nI 5)), some (pI e), some (pI ((-8)))]) dX10_feed_109 rfl (by decide) (by decide) rfl ?_
    refine J_goto dX10_feed_112 ?_
    refine J_iload dX10_feed_19 rfl ?_
    refine J_iconstN (n := 5) dX10_feed_21 ?_
    refine J_icmp_geN dX10_feed_22 (by decide) (by decide) (fun c0 => ?_) (fun c0 => absurd c0 (by decide))
    refine J_aload_n dX10_feed_115 rfl ?_
    refine J_getI dX10_feed_116 fX10_110 s158 (fun _ => rfl) ?_
    refine J_cvI (rI_s) ?_
    have TT := (TP.st (c0 := 158) (c1 := 159) (k := n + 1 + 1 + 1 + 1 + 1 + 1 + 1 + 1 + 1 + 1 + 1 + 1 + 1 + 1 + 1 + 1 + 1 + 1 + 1) (by decide) (TP.st (c0 := 158) (c1 := 159) (k := n + 1 + 1 + 1 + 1 + 1 + 1 + 1 + 1 + 1 + 1 + 1 + 1 + 1 + 1 + 1 + 1 + 1 + 1) (by decide) (TP.st (c0 := 158) (c1 := 159) (k := n + 1 + 1 + 1 + 1 + 1 + 1 + 1 + 1 + 1 + 1 + 1 + 1 + 1 + 1 + 1 + 1 + 1) (by decide) (TP.st (c0 := 158) (c1 := 159) (k := n + 1 + 1 + 1 + 1 + 1 + 1 + 1 + 1 + 1 + 1 + 1 + 1 + 1 + 1 + 1 + 1) (by decide) (TP.st (c0 := 158) (c1 := 159) (k := n + 1 + 1 + 1 + 1 + 1 + 1 + 1 + 1 + 1 + 1 + 1 + 1 + 1 + 1 + 1) (by decide) (TP.st (c0 := 158) (c1 := 159) (k := n + 1 + 1 + 1 + 1 + 1 + 1 + 1 + 1 + 1 + 1 + 1 + 1 + 1 + 1) (by decide) (TP.st (c0 := 158) (c1 := 159) (k := n + 1 + 1 + 1 + 1 + 1 + 1 + 1 + 1 + 1 + 1 + 1 + 1 + 1) (by decide) (TP.st (c0 := 158) (c1 := 159) (k := n + 1 + 1 + 1 + 1 + 1 + 1 + 1 + 1 + 1 + 1 + 1 + 1) (by decide) (TP.st (c0 := 158) (c1 := 159) (k := n + 1 + 1 + 1 + 1 + 1 + 1 + 1 + 1 + 1 + 1 + 1) (by decide) (TP.st (c0 := 158) (c1 := 159) (k := n + 1 + 1 + 1 + 1 + 1 + 1 + 1 + 1 + 1 + 1) (by decide) (TP.st (c0 := 158) (c1 := 159) (k := n + 1 + 1 + 1 + 1 + 1 + 1 + 1 + 1 + 1) (by decide) (TP.st (c0 := 158) (c1 := 159) (k := n + 1 + 1 + 1 + 1 + 1 + 1 + 1 + 1) (by decide) (TP.st (c0 := 158) (c1 := 159) (k := n + 1 + 1 + 1 + 1 + 1 + 1 + 1) (by decide) (TP.st (c0 := 158) (c1 := 159) (k := n + 1 + 1 + 1 + 1 + 1 + 1) (by decide) (TP.st (c0 := 158) (c1 := 159) (k := n + 1 + 1 + 1 + 1 + 1) (by decide) (TP.st (c0 := 158) (c1 := 159) (k := n + 1 + 1 + 1 + 1) (by decide) (TP.st (c0 := 158) (c1 := 159) (k := n + 1 + 1 + 1) (by decide) (TP.st (c0 := 158) (c1 := 159) (k := n + 1 + 1) (by decide) (TP.st (c0 := 158) (c1 := 159) (k := n + 1) (by decide) (TP.st (c0 := 158) (c1 := 159) (k := n) (by decide) (show TP 158 159 h h (h.1 159) n from ⟨rfl, hn, FT.rf⟩) (by8_m (x := a) (s := 24) (by decide))) (by8_m (x := a) (s := 16) (by decide))) (by8_m (x := a) (s := 8) (by decide))) (by8_m (x := a) (s := 0) (by decide))) (by8_m (x := b) (s := 24) (by decide))) (by8_m (x := b) (s := 16) (by decide))) (by8_m (x := b) (s := 8) (by decide))) (by8_m (x := b) (s := 0) (by decide))) (by8_m (x := c) (s := 24) (by decide))) (by8_m (x := c) (s := 16) (by decide))) (by8_m (x := c) (s := 8) (by decide))) (by8_m (x := c) (s := 0) (by decide))) (by8_m (x := d) (s := 24) (by decide))) (by8_m (x := d) (s := 16) (by decide))) (by8_m (x := d) (s := 8) (by decide))) (by8_m (x := d) (s := 0) (by decide))) (by8_m (x := e) (s := 24) (by decide))) (by8_m (x := e) (s := 16) (by decide))) (by8_m (x := e) (s := 8) (by decide))) (by8_m (x := e) (s := 0) (by decide)))
    exact J_retI dX10_feed_119 rfl ⟨(if_pos (by omega)).symm, by rw [if_pos (by omega)]; exact ⟨hM.tape (T := pt20 (h.1 159) n a b c d e) TT (fun i hi => pt20_cg (hM.1.1 i hi)), TT.2.2.fr (by omega) (by omega)⟩⟩
  · refine J_bipush (x := (-3)) dX10_feed_13 (by decide) ?_
    exact J_retI dX10_feed_15 rfl ⟨(if_neg (by omega)).symm, by rw [if_neg (by omega)]; exact ⟨hM, Fr.rf⟩⟩
