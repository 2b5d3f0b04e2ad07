theorem c_X7_spareOf {h : PH} {th rk rl x : Nat} (hth : IsTh th) (h8 : h.1 th 8 = nI rk) (h9 : h.1 th 9 = nI rl) (b8 : rk < 1000) (b9 : rl < 1000) (bx : x < 1000) : CtI mX7_spareOf h [pR (some th), pI (nI x)] (fun v h' => v = nI (spN rk rl x) ∧ h' = h) := by
  refine Ct.of (L := [some (pR (some th)), some (pI (nI x))]) rfl rfl (Nat.le_of_ble_eq_true rfl) rfl ?_
  refine J_aload_n dX7_spareOf_0 rfl ?_
  refine J_getI dX7_spareOf_1 fX7_20 hth.s (fun _ => rfl) ?_
  refine J_cvI (h8) ?_
  refine J_iconstN (n := 1) dX7_spareOf_4 ?_
  refine J_icmp_eqN dX7_spareOf_5 (by omega) (by omega) (fun c1 => ?_) (fun c1 => ?_)
  · refine J_iload_n dX7_spareOf_10 rfl ?_
    refine J_aload_n dX7_spareOf_11 rfl ?_
    refine J_getI dX7_spareOf_12 fX7_24 hth.s (fun _ => rfl) ?_
    refine J_cvI (h9) ?_
    refine J_icmp_leN dX7_spareOf_15 (by omega) (by omega) (fun c2 => ?_) (fun c2 => ?_)
    · refine J_iconstN (n := 0) dX7_spareOf_27 ?_
      exact J_retI dX7_spareOf_28 rfl ⟨by grind [spN], rfl⟩
    · refine J_iload_n dX7_spareOf_18 rfl ?_
      refine J_aload_n dX7_spareOf_19 rfl ?_
      refine J_getI dX7_spareOf_20 fX7_24 hth.s (fun _ => rfl) ?_
      refine J_cvI (h9) ?_
      refine J_isubN dX7_spareOf_23 (by omega) ?_
      refine J_goto dX7_spareOf_24 ?_
      exact J_retI dX7_spareOf_28 rfl ⟨by grind [spN], rfl⟩
  · refine J_iload_n dX7_spareOf_8 rfl ?_
    exact J_retI dX7_spareOf_9 rfl ⟨by grind [spN], rfl⟩
theorem c_X8_giveOut {h : PH} {wk th rk rl s wa ne : Nat} (hwk : IsWk wk) (hth : IsTh th) (h8 : h.1 th 8 = nI rk) (h9 : h.1 th 9 = nI rl) (b8 : rk < 1000) (b9 : rl < 1000) (bs : s < 1000) (bw : wa < 1000) (bn : ne < 1000) : CtV mX8_giveOut h [pR (some wk), pR (some th), pI (nI s), pI (nI wa), pI (nI ne)] (fun h' => h' = sI (sI (sI (sI h wk 1 (nI (gvN rk rl s wa ne))) wk 2 (nI (lkN s wa ne))) wk 3 (nI (msN rk rl s wa ne))) wk 0 (nI (rsN rk rl s wa ne))) := by
  have hl1 := hth.lt
  have hl2 := hwk.lt
  have q1 := nm_le s wa ne
  have q2 := wm_le rk rl s wa ne
  have q3 := gv_le rk rl s wa ne
  have q4 := ws_le rk rl s wa ne
  have q5 := spN_le rk rl (s - nmN s wa ne)
  have q6 := gv_eq rk rl s wa ne
  refine Ct.of (L := [some (pR (some wk)), some (pR (some th)), some (pI (nI s)), some (pI (nI wa)), some (pI (nI ne)), none, none, none, none]) rfl rfl (Nat.le_of_ble_eq_true rfl) rfl ?_
  have K38 : J mX8_giveOut (RF mX8_giveOut) SHF (ZV (fun h' => h' = sI (sI (sI (sI h wk 1 (nI (gvN rk rl s wa ne))) wk 2 (nI (lkN s wa ne))) wk 3 (nI (msN rk rl s wa ne))) wk 0 (nI (rsN rk rl s wa ne)))) 38 [some (pR (some wk)), some (pR (some th)), some (pI (nI s)), some (pI (nI wa)), some (pI (nI ne)), some (pI (nI (min wa ne))), some (pI (nI (wsN rk rl s wa ne))), none, none] [] SHF h := by
    refine J_iload dX8_giveOut_38 rfl ?_
    refine J_iload_n dX8_giveOut_40 rfl ?_
    refine J_min dX8_giveOut_41 lmX8_9 w_min_s w_min_i w_min_c (by decide) (Nat.le_of_ble_eq_true rfl) CR.f ?_
    refine J_cvI (nI_min (by omega) (by omega)) ?_
    refine J_cvI (y := nI (nmN s wa ne)) rfl ?_
    refine J_istore (L' := [some (pR (some wk)), some (pR (some th)), some (pI (nI s)), some (pI (nI wa)), some (pI (nI ne)), some (pI (nI (min wa ne))), some (pI (nI (wsN rk rl s wa ne))), some (pI (nI (nmN s wa ne))), none]) dX8_giveOut_44 (by decide) rfl ?_
    refine J_iload dX8_giveOut_46 rfl ?_
    refine J_aload_n dX8_giveOut_48 rfl ?_
    refine J_iload_n dX8_giveOut_49 rfl ?_
    refine J_iload dX8_giveOut_50 rfl ?_
    refine J_isubN dX8_giveOut_52 (by omega) ?_
    refine J_cVI (ci := 7) (c := th) (as := [pI (nI (s - nmN s wa ne))]) (st := [pI (nI (wsN rk rl s wa ne))]) dX8_giveOut_53 lX8_24 okX7_spareOf vX7_spareOf hth.s (by decide) rfl rfl rfl (Nat.le_of_ble_eq_true rfl) ⟨Nat.le_of_ble_eq_true rfl, Nat.le_of_ble_eq_true rfl⟩ CR.f (c_X7_spareOf hth h8 h9 b8 b9 (by omega)) (fun v h0 e0 => ?_)
    obtain ⟨rfl, rfl⟩ := e0
    refine J_min dX8_giveOut_56 lmX8_9 w_min_s w_min_i w_min_c (by decide) (Nat.le_of_ble_eq_true rfl) CR.f ?_
    refine J_cvI (nI_min (by omega) (by omega)) ?_
    refine J_cvI (y := nI (wmN rk rl s wa ne)) rfl ?_
    refine J_istore (L' := [some (pR (some wk)), some (pR (some th)), some (pI (nI s)), some (pI (nI wa)), some (pI (nI ne)), some (pI (nI (min wa ne))), some (pI (nI (wsN rk rl s wa ne))), some (pI (nI (nmN s wa ne))), some (pI (nI (wmN rk rl s wa ne)))]) dX8_giveOut_59 (by decide) rfl ?_
    refine J_aload_n dX8_giveOut_61 rfl ?_
    refine J_iload dX8_giveOut_62 rfl ?_
    refine J_iload dX8_giveOut_64 rfl ?_
    refine J_iaddN dX8_giveOut_66 ?_
    refine J_putI dX8_giveOut_67 fX8_28 hwk.s rfl (vp_nar_int _) rfl (fun _ _ => rfl) ?_
    refine J_aload_n dX8_giveOut_70 rfl ?_
    refine J_iload dX8_giveOut_71 rfl ?_
    refine J_iload dX8_giveOut_73 rfl ?_
    refine J_isubN dX8_giveOut_75 (by omega) ?_
    refine J_putI dX8_giveOut_76 fX8_33 hwk.s rfl (vp_nar_int _) rfl (fun _ _ => rfl) ?_
    refine J_aload_n dX8_giveOut_79 rfl ?_
    refine J_iload dX8_giveOut_80 rfl ?_
    refine J_iload dX8_giveOut_82 rfl ?_
    refine J_isubN dX8_giveOut_84 (by omega) ?_
    refine J_putI dX8_giveOut_85 fX8_36 hwk.s rfl (vp_nar_int _) rfl (fun _ _ => rfl) ?_
    refine J_aload_n dX8_giveOut_88 rfl ?_
    refine J_iload_n dX8_giveOut_89 rfl ?_
    refine J_aload_n dX8_giveOut_90 rfl ?_
    refine J_getI dX8_giveOut_91 fX8_28 hwk.s (fun _ => rfl) ?_
    refine J_cvI ((rI_k (by decide)).trans ((rI_k (by decide)).trans (rI_s))) ?_
    refine J_isubN dX8_giveOut_94 (by omega) ?_
    refine J_putI dX8_giveOut_95 fX8_39 hwk.s rfl (vp_nar_int _) rfl (fun _ _ => rfl) ?_
    exact J_retV dX8_giveOut_98 rfl rfl
  refine J_iload_n dX8_giveOut_0 rfl ?_
  refine J_iload dX8_giveOut_1 rfl ?_
  refine J_min dX8_giveOut_3 lmX8_9 w_min_s w_min_i w_min_c (by decide) (Nat.le_of_ble_eq_true rfl) CR.f ?_
  refine J_cvI (nI_min (by omega) (by omega)) ?_
  refine J_istore (L' := [some (pR (some wk)), some (pR (some th)), some (pI (nI s)), some (pI (nI wa)), some (pI (nI ne)), some (pI (nI (min wa ne))), none, none, none]) dX8_giveOut_6 (by decide) rfl ?_
  refine J_iload_n dX8_giveOut_8 rfl ?_
  refine J_iload dX8_giveOut_9 rfl ?_
  refine J_isubN dX8_giveOut_11 (by omega) ?_
  refine J_istore (L' := [some (pR (some wk)), some (pR (some th)), some (pI (nI s)), some (pI (nI wa)), some (pI (nI ne)), some (pI (nI (min wa ne))), some (pI (nI (wa - min wa ne))), none, none]) dX8_giveOut_12 (by decide) rfl ?_
  refine J_aload_n dX8_giveOut_14 rfl ?_
  refine J_getI dX8_giveOut_15 fX8_15 hth.s (fun _ => rfl) ?_
  refine J_cvI (h8) ?_
  refine J_iconstN (n := 2) dX8_giveOut_18 ?_
  refine J_icmp_neN dX8_giveOut_19 (by omega) (by omega) (fun c1 => ?_) (fun c1 => ?_)
  · refine J_L (L' := [some (pR (some wk)), some (pR (some th)), some (pI (nI s)), some (pI (nI wa)), some (pI (nI ne)), some (pI (nI (min wa ne))), some (pI (nI (wsN rk rl s wa ne))), none, none]) (by grind [wsN]) ?_
    exact K38
  · refine J_iload_n dX8_giveOut_22 rfl ?_
    refine J_aload_n dX8_giveOut_23 rfl ?_
    refine J_getI dX8_giveOut_24 fX8_21 hth.s (fun _ => rfl) ?_
    refine J_cvI (h9) ?_
    refine J_icmp_gtN dX8_giveOut_27 (by omega) (by omega) (fun c2 => ?_) (fun c2 => ?_)
    · refine J_L (L' := [some (pR (some wk)), some (pR (some th)), some (pI (nI s)), some (pI (nI wa)), some (pI (nI ne)), some (pI (nI (min wa ne))), some (pI (nI (wsN rk rl s wa ne))), none, none]) (by grind [wsN]) ?_
      exact K38
    · refine J_iload dX8_giveOut_30 rfl ?_
      refine J_if_leN dX8_giveOut_32 (by omega) (fun c3 => ?_) (fun c3 => ?_)
      · refine J_L (L' := [some (pR (some wk)), some (pR (some th)), some (pI (nI s)), some (pI (nI wa)), some (pI (nI ne)), some (pI (nI (min wa ne))), some (pI (nI (wsN rk rl s wa ne))), none, none]) (by grind [wsN]) ?_
        exact K38
      · refine J_iincM (n := 1) (L' := [some (pR (some wk)), some (pR (some th)), some (pI (nI s)), some (pI (nI wa)), some (pI (nI ne)), some (pI (nI (min wa ne))), some (pI (nI (wa - min wa ne - 1))), none, none]) dX8_giveOut_35 (by omega) rfl (by decide) rfl ?_
        refine J_L (L' := [some (pR (some wk)), some (pR (some th)), some (pI (nI s)), some (pI (nI wa)), some (pI (nI ne)), some (pI (nI (min wa ne))), some (pI (nI (wsN rk rl s wa ne))), none, none]) (by grind [wsN]) ?_
        exact K38
theorem c_X8_letSpoil {h : PH} {wk th so x : Nat} (hwk : IsWk wk) (hth : IsTh th) (h5 : h.1 th 5 = nI so) (h0 : h.1 wk 0 = nI x) (b5 : so < 1000) (bx : x < 1000) : CtV mX8_letSpoil h [pR (some wk), pR (some th)] (fun h' => h' = sI (sI h wk 4 (nI (slN so x))) wk 0 (nI (x - slN so x))) := by
  have hl1 := hth.lt
  have hl2 := hwk.lt
  have q1 := sl_le so x
  refine Ct.of (L := [some (pR (some wk)), some (pR (some th))]) rfl rfl (Nat.le_of_ble_eq_true rfl) rfl ?_
  refine J_aload_n dX8_letSpoil_0 rfl ?_
  refine J_aload_n dX8_letSpoil_1 rfl ?_
  refine J_getI dX8_letSpoil_2 fX8_42 hth.s (fun _ => rfl) ?_
  refine J_cvI (h5) ?_
  refine J_iconstN (n := 2) dX8_letSpoil_5 ?_
  refine J_icmp_geN dX8_letSpoil_6 (by omega) (by omega) (fun c1 => ?_) (fun c1 => ?_)
  · refine J_aload_n dX8_letSpoil_13 rfl ?_
    refine J_getI dX8_letSpoil_14 fX8_39 hwk.s (fun _ => rfl) ?_
    refine J_cvI (h0) ?_
    refine J_aload_n dX8_letSpoil_17 rfl ?_
    refine J_getI dX8_letSpoil_18 fX8_42 hth.s (fun _ => rfl) ?_
    refine J_cvI (h5) ?_
    refine J_idivN dX8_letSpoil_21 (by omega) (by omega) (by omega) ?_
    refine J_cvI (y := nI (slN so x)) (by grind [slN]) ?_
    refine J_putI dX8_letSpoil_22 fX8_45 hwk.s rfl (vp_nar_int _) rfl (fun _ _ => rfl) ?_
    refine J_aload_n dX8_letSpoil_25 rfl ?_
    refine J_dup dX8_letSpoil_26 rfl ?_
    refine J_getI dX8_letSpoil_27 fX8_39 hwk.s (fun _ => rfl) ?_
    refine J_cvI ((rI_k (by decide)).trans (h0)) ?_
    refine J_aload_n dX8_letSpoil_30 rfl ?_
    refine J_getI dX8_letSpoil_31 fX8_45 hwk.s (fun _ => rfl) ?_
    refine J_cvI (rI_s) ?_
    refine J_isubN dX8_letSpoil_34 (by omega) ?_
    refine J_putI dX8_letSpoil_35 fX8_39 hwk.s rfl (vp_nar_int _) rfl (fun _ _ => rfl) ?_
    exact J_retV dX8_letSpoil_38 rfl rfl
  · refine J_iconstN (n := 0) dX8_letSpoil_9 ?_
    refine J_goto dX8_letSpoil_10 ?_
    refine J_cvI (y := nI (slN so x)) (by grind [slN]) ?_
    refine J_putI dX8_letSpoil_22 fX8_45 hwk.s rfl (vp_nar_int _) rfl (fun _ _ => rfl) ?_
    refine J_aload_n dX8_letSpoil_25 rfl ?_
    refine J_dup dX8_letSpoil_26 rfl ?_
    refine J_getI dX8_letSpoil_27 fX8_39 hwk.s (fun _ => rfl) ?_
    refine J_cvI ((rI_k (by decide)).trans (h0)) ?_
    refine J_aload_n dX8_letSpoil_30 rfl ?_
    refine J_getI dX8_letSpoil_31 fX8_45 hwk.s (fun _ => rfl) ?_
    refine J_cvI (rI_s) ?_
    refine J_isubN dX8_letSpoil_34 (by omega) ?_
    refine J_putI dX8_letSpoil_35 fX8_39 hwk.s rfl (vp_nar_int _) rfl (fun _ _ => rfl) ?_
    exact J_retV dX8_letSpoil_38 rfl rfl
