theorem c_X2_valueMoney {h : PH} {th pay lk lf : Nat} (hG : GR h.2.2) (hth : IsTh th) (t2 : h.1 th 2 = nI pay) (t3 : h.1 th 3 = nI lk) (t4 : h.1 th 4 = nI lf) (b2 : pay < 1000) (b3 : lk < 1000) (b4 : lf < 1000) : CtV mX2_valueMoney h [pR (some 92), pR (some th)] (fun h' => OL h' 0 (lN pay) (-lN lk) 0 0 ∧ h'.2.1 92 10 = lN lf ∧ Fr 92 92 h h') := by
  have hl1 := hth.lt
  refine Ct.of (L := [some (pR (some 92)), some (pR (some th))]) rfl rfl (Nat.le_of_ble_eq_true rfl) rfl ?_
  refine J_aload_n dX2_valueMoney_0 rfl ?_
  refine J_iconstN (n := 0) dX2_valueMoney_1 ?_
  refine J_putI dX2_valueMoney_2 fX2_31 s92 rfl rfl rfl (fun _ _ => rfl) ?_
  refine J_aload_n dX2_valueMoney_5 rfl ?_
  refine J_aload_n dX2_valueMoney_6 rfl ?_
  refine J_getI dX2_valueMoney_7 fX2_51 hth.s (fun _ => rfl) ?_
  refine J_cvI ((rI_c (by omega)).trans (t2)) ?_
  refine J_i2lN dX2_valueMoney_10 (by omega) ?_
  refine J_putL dX2_valueMoney_11 fX2_35 s92 rfl rfl ?_
  refine J_aload_n dX2_valueMoney_14 rfl ?_
  refine J_aload_n dX2_valueMoney_15 rfl ?_
  refine J_getI dX2_valueMoney_16 fX2_57 hth.s (fun _ => rfl) ?_
  refine J_cvI ((xIL).trans ((rI_c (by omega)).trans (t3))) ?_
  refine J_ineg dX2_valueMoney_19 ?_
  refine J_i2l dX2_valueMoney_20 ?_
  refine J_putL dX2_valueMoney_21 fX2_39 s92 rfl rfl ?_
  refine J_aload_n dX2_valueMoney_24 rfl ?_
  refine J_lconst (x := 0) dX2_valueMoney_25 rfl ?_
  refine J_putL dX2_valueMoney_26 fX2_42 s92 rfl rfl ?_
  refine J_aload_n dX2_valueMoney_29 rfl ?_
  refine J_lconst (x := 0) dX2_valueMoney_30 rfl ?_
  refine J_putL dX2_valueMoney_31 fX2_45 s92 rfl rfl ?_
  refine J_aload_n dX2_valueMoney_34 rfl ?_
  refine J_aload_n dX2_valueMoney_35 rfl ?_
  refine J_getI dX2_valueMoney_36 fX2_60 hth.s (fun _ => rfl) ?_
  refine J_cvI ((xIL).trans ((xIL).trans ((xIL).trans ((xIL).trans ((rI_c (by omega)).trans (t4)))))) ?_
  refine J_i2lN dX2_valueMoney_39 (by omega) ?_
  refine J_putL dX2_valueMoney_40 fX2_48 s92 rfl rfl ?_
  exact J_retV dX2_valueMoney_43 rfl ⟨⟨((xIL).trans ((xIL).trans ((xIL).trans ((xIL).trans ((xIL).trans (rI_s)))))), ((rL_k (by decide)).trans ((rL_k (by decide)).trans ((rL_k (by decide)).trans ((rL_k (by decide)).trans (rL_s))))), ((rL_k (by decide)).trans ((rL_k (by decide)).trans ((rL_k (by decide)).trans ((rL_s).trans ((negL (by omega))))))), ((rL_k (by decide)).trans ((rL_k (by decide)).trans (rL_s))), ((rL_k (by decide)).trans (rL_s)), by decide⟩, (rL_s), Fr.sI (by omega) (by omega) |>.tr (Fr.sL (by omega) (by omega)) |>.tr (Fr.sL (by omega) (by omega)) |>.tr (Fr.sL (by omega) (by omega)) |>.tr (Fr.sL (by omega) (by omega)) |>.tr (Fr.sL (by omega) (by omega))⟩
theorem c_X2_valueMoneyS {h : PH} {th pay lk lf : Nat} (hG : GR h.2.2) (hth : IsTh th) (t2 : h.1 th 2 = nI pay) (t3 : h.1 th 3 = nI lk) (t4 : h.1 th 4 = nI lf) (b2 : pay < 1000) (b3 : lk < 1000) (b4 : lf < 1000) : CtV mX2_valueMoney h [pR (some 92), pR (some th)] (fun h' => OL h' 0 (lN pay) (-lN lk) 0 0 ∧ h'.2.1 92 10 = lN lf ∧ Fr 92 92 h h' ∧ ∀ k, k ≠ 5 → h'.1 92 k = h.1 92 k) := by
  have hl1 := hth.lt
  refine Ct.of (L := [some (pR (some 92)), some (pR (some th))]) rfl rfl (Nat.le_of_ble_eq_true rfl) rfl ?_
  refine J_aload_n dX2_valueMoney_0 rfl ?_
  refine J_iconstN (n := 0) dX2_valueMoney_1 ?_
  refine J_putI dX2_valueMoney_2 fX2_31 s92 rfl rfl rfl (fun _ _ => rfl) ?_
  refine J_aload_n dX2_valueMoney_5 rfl ?_
  refine J_aload_n dX2_valueMoney_6 rfl ?_
  refine J_getI dX2_valueMoney_7 fX2_51 hth.s (fun _ => rfl) ?_
  refine J_cvI ((rI_c (by omega)).trans (t2)) ?_
  refine J_i2lN dX2_valueMoney_10 (by omega) ?_
  refine J_putL dX2_valueMoney_11 fX2_35 s92 rfl rfl ?_
  refine J_aload_n dX2_valueMoney_14 rfl ?_
  refine J_aload_n dX2_valueMoney_15 rfl ?_
  refine J_getI dX2_valueMoney_16 fX2_57 hth.s (fun _ => rfl) ?_
  refine J_cvI ((xIL).trans ((rI_c (by omega)).trans (t3))) ?_
  refine J_ineg dX2_valueMoney_19 ?_
  refine J_i2l dX2_valueMoney_20 ?_
  refine J_putL dX2_valueMoney_21 fX2_39 s92 rfl rfl ?_
  refine J_aload_n dX2_valueMoney_24 rfl ?_
  refine J_lconst (x := 0) dX2_valueMoney_25 rfl ?_
  refine J_putL dX2_valueMoney_26 fX2_42 s92 rfl rfl ?_
  refine J_aload_n dX2_valueMoney_29 rfl ?_
  refine J_lconst (x := 0) dX2_valueMoney_30 rfl ?_
  refine J_putL dX2_valueMoney_31 fX2_45 s92 rfl rfl ?_
  refine J_aload_n dX2_valueMoney_34 rfl ?_
  refine J_aload_n dX2_valueMoney_35 rfl ?_
  refine J_getI dX2_valueMoney_36 fX2_60 hth.s (fun _ => rfl) ?_
  refine J_cvI ((xIL).trans ((xIL).trans ((xIL).trans ((xIL).trans ((rI_c (by omega)).trans (t4)))))) ?_
  refine J_i2lN dX2_valueMoney_39 (by omega) ?_
  refine J_putL dX2_valueMoney_40 fX2_48 s92 rfl rfl ?_
  exact J_retV dX2_valueMoney_43 rfl ⟨⟨((xIL).trans ((xIL).trans ((xIL).trans ((xIL).trans ((xIL).trans (rI_s)))))), ((rL_k (by decide)).trans ((rL_k (by decide)).trans ((rL_k (by decide)).trans ((rL_k (by decide)).trans (rL_s))))), ((rL_k (by decide)).trans ((rL_k (by decide)).trans ((rL_k (by decide)).trans ((rL_s).trans ((negL (by omega))))))), ((rL_k (by decide)).trans ((rL_k (by decide)).trans (rL_s))), ((rL_k (by decide)).trans (rL_s)), by decide⟩, (rL_s), Fr.sI (by omega) (by omega) |>.tr (Fr.sL (by omega) (by omega)) |>.tr (Fr.sL (by omega) (by omega)) |>.tr (Fr.sL (by omega) (by omega)) |>.tr (Fr.sL (by omega) (by omega)) |>.tr (Fr.sL (by omega) (by omega)), fun k hk => (xIL).trans ((xIL).trans ((xIL).trans ((xIL).trans ((xIL).trans (rI_k hk)))))⟩
theorem c_X2_valueCounts_0 {h : PH} (hG : GR h.2.2) : CtV mX2_valueCounts h [pR (some 92), pI (nI 0)] (fun h' => OL h' 0 1 0 0 0 ∧ h'.2.1 92 10 = 0 ∧ Fr 92 92 h h') := by
  refine Ct.of (L := [some (pR (some 92)), some (pI (nI 0))]) rfl rfl (Nat.le_of_ble_eq_true rfl) rfl ?_
  refine J_aload_n dX2_valueCounts_0 rfl ?_
  refine J_iconstN (n := 0) dX2_valueCounts_1 ?_
  refine J_putI dX2_valueCounts_2 fX2_31 s92 rfl rfl rfl (fun _ _ => rfl) ?_
  refine J_aload_n dX2_valueCounts_5 rfl ?_
  refine J_iload_n dX2_valueCounts_6 rfl ?_
  refine J_if_ne dX2_valueCounts_7 (fun c0 => absurd c0 (by decide)) (fun c0 => ?_)
  refine J_lconst (x := 1) dX2_valueCounts_10 rfl ?_
  refine J_goto dX2_valueCounts_11 ?_
  refine J_putL dX2_valueCounts_15 fX2_35 s92 rfl rfl ?_
  refine J_aload_n dX2_valueCounts_18 rfl ?_
  refine J_iload_n dX2_valueCounts_19 rfl ?_
  refine J_iconstN (n := 1) dX2_valueCounts_20 ?_
  refine J_icmp_neN dX2_valueCounts_21 (by decide) (by decide) (fun c0 => ?_) (fun c0 => absurd c0 (by decide))
  refine J_lconst (x := 0) dX2_valueCounts_28 rfl ?_
  refine J_putL dX2_valueCounts_29 fX2_39 s92 rfl rfl ?_
  refine J_aload_n dX2_valueCounts_32 rfl ?_
  refine J_iload_n dX2_valueCounts_33 rfl ?_
  refine J_iconstN (n := 2) dX2_valueCounts_34 ?_
  refine J_icmp_neN dX2_valueCounts_35 (by decide) (by decide) (fun c0 => ?_) (fun c0 => absurd c0 (by decide))
  refine J_lconst (x := 0) dX2_valueCounts_42 rfl ?_
  refine J_putL dX2_valueCounts_43 fX2_42 s92 rfl rfl ?_
  refine J_aload_n dX2_valueCounts_46 rfl ?_
  refine J_iload_n dX2_valueCounts_47 rfl ?_
  refine J_iconstN (n := 3) dX2_valueCounts_48 ?_
  refine J_icmp_neN dX2_valueCounts_49 (by decide) (by decide) (fun c0 => ?_) (fun c0 => absurd c0 (by decide))
  refine J_lconst (x := 0) dX2_valueCounts_56 rfl ?_
  refine J_putL dX2_valueCounts_57 fX2_45 s92 rfl rfl ?_
  refine J_aload_n dX2_valueCounts_60 rfl ?_
  refine J_iload_n dX2_valueCounts_61 rfl ?_
  refine J_iconstN (n := 4) dX2_valueCounts_62 ?_
  refine J_icmp_neN dX2_valueCounts_63 (by decide) (by decide) (fun c0 => ?_) (fun c0 => absurd c0 (by decide))
  refine J_lconst (x := 0) dX2_valueCounts_70 rfl ?_
  refine J_putL dX2_valueCounts_71 fX2_48 s92 rfl rfl ?_
  exact J_retV dX2_valueCounts_74 rfl ⟨⟨((xIL).trans ((xIL).trans ((xIL).trans ((xIL).trans ((xIL).trans (rI_s)))))), ((rL_k (by decide)).trans ((rL_k (by decide)).trans ((rL_k (by decide)).trans ((rL_k (by decide)).trans (rL_s))))), ((rL_k (by decide)).trans ((rL_k (by decide)).trans ((rL_k (by decide)).trans (rL_s)))), ((rL_k (by decide)).trans ((rL_k (by decide)).trans (rL_s))), ((rL_k (by decide)).trans (rL_s)), by decide⟩, (rL_s), Fr.sI (by omega) (by omega) |>.tr (Fr.sL (by omega) (by omega)) |>.tr (Fr.sL (by omega) (by omega)) |>.tr (Fr.sL (by omega) (by omega)) |>.tr (Fr.sL (by omega) (by omega)) |>.tr (Fr.sL (by omega) (by omega))⟩
theorem c_X2_valueCounts_1 {h : PH} (hG : GR h.2.2) : CtV mX2_valueCounts h [pR (some 92), pI (nI 1)] (fun h' => OL h' 0 0 1 0 0 ∧ h'.2.1 92 10 = 0 ∧ Fr 92 92 h h') := by
  refine Ct.of (L := [some (pR (some 92)), some (pI (nI 1))]) rfl rfl (Nat.le_of_ble_eq_true rfl) rfl ?_
  refine J_aload_n dX2_valueCounts_0 rfl ?_
  refine J_iconstN (n := 0) dX2_valueCounts_1 ?_
  refine J_putI dX2_valueCounts_2 fX2_31 s92 rfl rfl rfl (fun _ _ => rfl) ?_
  refine J_aload_n dX2_valueCounts_5 rfl ?_
  refine J_iload_n dX2_valueCounts_6 rfl ?_
  refine J_if_ne dX2_valueCounts_7 (fun c0 => ?_) (fun c0 => absurd c0 (by decide))
  refine J_lconst (x := 0) dX2_valueCounts_14 rfl ?_
  refine J_putL dX2_valueCounts_15 fX2_35 s92 rfl rfl ?_
  refine J_aload_n dX2_valueCounts_18 rfl ?_
  refine J_iload_n dX2_valueCounts_19 rfl ?_
  refine J_iconstN (n := 1) dX2_valueCounts_20 ?_
  refine J_icmp_neN dX2_valueCounts_21 (by decide) (by decide) (fun c0 => absurd c0 (by decide)) (fun c0 => ?_)
  refine J_lconst (x := 1) dX2_valueCounts_24 rfl ?_
  refine J_goto dX2_valueCounts_25 ?_
  refine J_putL dX2_valueCounts_29 fX2_39 s92 rfl rfl ?_
  refine J_aload_n dX2_valueCounts_32 rfl ?_
  refine J_iload_n dX2_valueCounts_33 rfl ?_
  refine J_iconstN (n := 2) dX2_valueCounts_34 ?_
  refine J_icmp_neN dX2_valueCounts_35 (by decide) (by decide) (fun c0 => ?_) (fun c0 => absurd c0 (by decide))
  refine J_lconst (x := 0) dX2_valueCounts_42 rfl ?_
  refine J_putL dX2_valueCounts_43 fX2_42 s92 rfl rfl ?_
  refine J_aload_n dX2_valueCounts_46 rfl ?_
  refine J_iload_n dX2_valueCounts_47 rfl ?_
  refine J_iconstN (n := 3) dX2_valueCounts_48 ?_
  refine J_icmp_neN dX2_valueCounts_49 (by decide) (by decide) (fun c0 => ?_) (fun c0 => absurd c0 (by decide))
  refine J_lconst (x := 0) dX2_valueCounts_56 rfl ?_
  refine J_putL dX2_valueCounts_57 fX2_45 s92 rfl rfl ?_
  refine J_aload_n dX2_valueCounts_60 rfl ?_
  refine J_iload_n dX2_valueCounts_61 rfl ?_
  refine J_iconstN (n := 4) dX2_valueCounts_62 ?_
  refine J_icmp_neN dX2_valueCounts_63 (by decide) (by decide) (fun c0 => ?_) (fun c0 => absurd c0 (by decide))
  refine J_lconst (x := 0) dX2_valueCounts_70 rfl ?_
  refine J_putL dX2_valueCounts_71 fX2_48 s92 rfl rfl ?_
  exact J_retV dX2_valueCounts_74 rfl ⟨⟨((xIL).trans ((xIL).trans ((xIL).trans ((xIL).trans ((xIL).trans (rI_s)))))), ((rL_k (by decide)).trans ((rL_k (by decide)).trans ((rL_k (by decide)).trans ((rL_k (by decide)).trans (rL_s))))), ((rL_k (by decide)).trans ((rL_k (by decide)).trans ((rL_k (by decide)).trans (rL_s)))), ((rL_k (by decide)).trans ((rL_k (by decide)).trans (rL_s))), ((rL_k (by decide)).trans (rL_s)), by decide⟩, (rL_s), Fr.sI (by omega) (by omega) |>.tr (Fr.sL (by omega) (by omega)) |>.tr (Fr.sL (by omega) (by omega)) |>.tr (Fr.sL (by omega) (by omega)) |>.tr (Fr.sL (by omega) (by omega)) |>.tr (Fr.sL (by omega) (by omega))⟩
theorem c_X2_valueCounts_2 {h : PH} (hG : GR h.2.2) : CtV mX2_valueCounts h [pR (some 92), pI (nI 2)] (fun h' => OL h' 0 0 0 1 0 ∧ h'.2.1 92 10 = 0 ∧ Fr 92 92 h h') := by
  refine Ct.of (L := [some (pR (some 92)), some (pI (nI 2))]) rfl rfl (Nat.le_of_ble_eq_true rfl) rfl ?_
  refine J_aload_n dX2_valueCounts_0 rfl ?_
  refine J_iconstN (n := 0) dX2_valueCounts_1 ?_
  refine J_putI dX2_valueCounts_2 fX2_31 s92 rfl rfl rfl (fun _ _ => rfl) ?_
  refine J_aload_n dX2_valueCounts_5 rfl ?_
  refine J_iload_n dX2_valueCounts_6 rfl ?_
  refine J_if_ne dX2_valueCounts_7 (fun c0 => ?_) (fun c0 => absurd c0 (by decide))
  refine J_lconst (x := 0) dX2_valueCounts_14 rfl ?_
  refine J_putL dX2_valueCounts_15 fX2_35 s92 rfl rfl ?_
  refine J_aload_n dX2_valueCounts_18 rfl ?_
  refine J_iload_n dX2_valueCounts_19 rfl ?_
  refine J_iconstN (n := 1) dX2_valueCounts_20 ?_
  refine J_icmp_neN dX2_valueCounts_21 (by decide) (by decide) (fun c0 => ?_) (fun c0 => absurd c0 (by decide))
  refine J_lconst (x := 0) dX2_valueCounts_28 rfl ?_
  refine J_putL dX2_valueCounts_29 fX2_39 s92 rfl rfl ?_
  refine J_aload_n dX2_valueCounts_32 rfl ?_
  refine J_iload_n dX2_valueCounts_33 rfl ?_
  refine J_iconstN (n := 2) dX2_valueCounts_34 ?_
  refine J_icmp_neN dX2_valueCounts_35 (by decide) (by decide) (fun c0 => absurd c0 (by decide)) (fun c0 => ?_)
  refine J_lconst (x := 1) dX2_valueCounts_38 rfl ?_
  refine J_goto dX2_valueCounts_39 ?_
  refine J_putL dX2_valueCounts_43 fX2_42 s92 rfl rfl ?_
  refine J_aload_n dX2_valueCounts_46 rfl ?_
  refine J_iload_n dX2_valueCounts_47 rfl ?_
  refine J_iconstN (n := 3) dX2_valueCounts_48 ?_
  refine J_icmp_neN dX2_valueCounts_49 (by decide) (by decide) (fun c0 => ?_) (fun c0 => absurd c0 (by decide))
  refine J_lconst (x := 0) dX2_valueCounts_56 rfl ?_
  refine J_putL dX2_valueCounts_57 fX2_45 s92 rfl rfl ?_
  refine J_aload_n dX2_valueCounts_60 rfl ?_
  refine J_iload_n dX2_valueCounts_61 rfl ?_
  refine J_iconstN (n := 4) dX2_valueCounts_62 ?_
  refine J_icmp_neN dX2_valueCounts_63 (by decide) (by decide) (fun c0 => ?_) (fun c0 => absurd c0 (by decide))
  refine J_lconst (x := 0) dX2_valueCounts_70 rfl ?_
  refine J_putL dX2_valueCounts_71 fX2_48 s92 rfl rfl ?_
  exact J_retV dX2_valueCounts_74 rfl ⟨⟨((xIL).trans ((xIL).trans ((xIL).trans ((xIL).trans ((xIL).trans (rI_s)))))), ((rL_k (by decide)).trans ((rL_k (by decide)).trans ((rL_k (by decide)).trans ((rL_k (by decide)).trans (rL_s))))), ((rL_k (by decide)).trans ((rL_k (by decide)).trans ((rL_k (by decide)).trans (rL_s)))), ((rL_k (by decide)).trans ((rL_k (by decide)).trans (rL_s))), ((rL_k (by decide)).trans (rL_s)), by decide⟩, (rL_s), Fr.sI (by omega) (by omega) |>.tr (Fr.sL (by omega) (by omega)) |>.tr (Fr.sL (by omega) (by omega)) |>.tr (Fr.sL (by omega) (by omega)) |>.tr (Fr.sL (by omega) (by omega)) |>.tr (Fr.sL (by omega) (by omega))⟩
theorem c_X2_valueCounts_3 {h : PH} (hG : GR h.2.2) : CtV mX2_valueCounts h [pR (some 92), pI (nI 3)] (fun h' => OL h' 0 0 0 0 1 ∧ h'.2.1 92 10 = 0 ∧ Fr 92 92 h h') := by
  refine Ct.of (L := [some (pR (some 92)), some (pI (nI 3))]) rfl rfl (Nat.le_of_ble_eq_true rfl) rfl ?_
  refine J_aload_n dX2_valueCounts_0 rfl ?_
  refine J_iconstN (n := 0) dX2_valueCounts_1 ?_
  refine J_putI dX2_valueCounts_2 fX2_31 s92 rfl rfl rfl (fun _ _ => rfl) ?_
  refine J_aload_n dX2_valueCounts_5 rfl ?_
  refine J_iload_n dX2_valueCounts_6 rfl ?_
  refine J_if_ne dX2_valueCounts_7 (fun c0 => ?_) (fun c0 => absurd c0 (by decide))
  refine J_lconst (x := 0) dX2_valueCounts_14 rfl ?_
  refine J_putL dX2_valueCounts_15 fX2_35 s92 rfl rfl ?_
  refine J_aload_n dX2_valueCounts_18 rfl ?_
  refine J_iload_n dX2_valueCounts_19 rfl ?_
  refine J_iconstN (n := 1) dX2_valueCounts_20 ?_
  refine J_icmp_neN dX2_valueCounts_21 (by decide) (by decide) (fun c0 => ?_) (fun c0 => absurd c0 (by decide))
  refine J_lconst (x := 0) dX2_valueCounts_28 rfl ?_
  refine J_putL dX2_valueCounts_29 fX2_39 s92 rfl rfl ?_
  refine J_aload_n dX2_valueCounts_32 rfl ?_
  refine J_iload_n dX2_valueCounts_33 rfl ?_
  refine J_iconstN (n := 2) dX2_valueCounts_34 ?_
  refine J_icmp_neN dX2_valueCounts_35 (by decide) (by decide) (fun c0 => ?_) (fun c0 => absurd c0 (by decide))
  refine J_lconst (x := 0) dX2_valueCounts_42 rfl ?_
  refine J_putL dX2_valueCounts_43 fX2_42 s92 rfl rfl ?_
  refine J_aload_n dX2_valueCounts_46 rfl ?_
  refine J_iload_n dX2_valueCounts_47 rfl ?_
  refine J_iconstN (n := 3) dX2_valueCounts_48 ?_
  refine J_icmp_neN dX2_valueCounts_49 (by decide) (by decide) (fun c0 => absurd c0 (by decide)) (fun c0 => ?_)
  refine J_lconst (x := 1) dX2_valueCounts_52 rfl ?_
  refine J_goto dX2_valueCounts_53 ?_
  refine J_putL dX2_valueCounts_57 fX2_45 s92 rfl rfl ?_
  refine J_aload_n dX2_valueCounts_60 rfl ?_
  refine J_iload_n dX2_valueCounts_61 rfl ?_
  refine J_iconstN (n := 4) dX2_valueCounts_62 ?_
  refine J_icmp_neN dX2_valueCounts_63 (by decide) (by decide) (fun c0 => ?_) (fun c0 => absurd c0 (by decide))
  refine J_lconst (x := 0) dX2_valueCounts_70 rfl ?_
  refine J_putL dX2_valueCounts_71 fX2_48 s92 rfl rfl ?_
  exact J_retV dX2_valueCounts_74 rfl ⟨⟨((xIL).trans ((xIL).trans ((xIL).trans ((xIL).trans ((xIL).trans (rI_s)))))), ((rL_k (by decide)).trans ((rL_k (by decide)).trans ((rL_k (by decide)).trans ((rL_k (by decide)).trans (rL_s))))), ((rL_k (by decide)).trans ((rL_k (by decide)).trans ((rL_k (by decide)).trans (rL_s)))), ((rL_k (by decide)).trans ((rL_k (by decide)).trans (rL_s))), ((rL_k (by decide)).trans (rL_s)), by decide⟩, (rL_s), Fr.sI (by omega) (by omega) |>.tr (Fr.sL (by omega) (by omega)) |>.tr (Fr.sL (by omega) (by omega)) |>.tr (Fr.sL (by omega) (by omega)) |>.tr (Fr.sL (by omega) (by omega)) |>.tr (Fr.sL (by omega) (by omega))⟩
theorem c_X2_valueCounts_4 {h : PH} (hG : GR h.2.2) : CtV mX2_valueCounts h [pR (some 92), pI (nI 4)] (fun h' => OL h' 0 0 0 0 0 ∧ h'.2.1 92 10 = 1 ∧ Fr 92 92 h h') := by
  refine Ct.of (L := [some (pR (some 92)), some (pI (nI 4))]) rfl rfl (Nat.le_of_ble_eq_true rfl) rfl ?_
  refine J_aload_n dX2_valueCounts_0 rfl ?_
  refine J_iconstN (n := 0) dX2_valueCounts_1 ?_
  refine J_putI dX2_valueCounts_2 fX2_31 s92 rfl rfl rfl (fun _ _ => rfl) ?_
  refine J_aload_n dX2_valueCounts_5 rfl ?_
  refine J_iload_n dX2_valueCounts_6 rfl ?_
  refine J_if_ne dX2_valueCounts_7 (fun c0 => ?_) (fun c0 => absurd c0 (by decide))
  refine J_lconst (x := 0) dX2_valueCounts_14 rfl ?_
  refine J_putL dX2_valueCounts_15 fX2_35 s92 rfl rfl ?_
  refine J_aload_n dX2_valueCounts_18 rfl ?_
  refine J_iload_n dX2_valueCounts_19 rfl ?_
  refine J_iconstN (n := 1) dX2_valueCounts_20 ?_
  refine J_icmp_neN dX2_valueCounts_21 (by decide) (by decide) (fun c0 => ?_) (fun c0 => absurd c0 (by decide))
  refine J_lconst (x := 0) dX2_valueCounts_28 rfl ?_
  refine J_putL dX2_valueCounts_29 fX2_39 s92 rfl rfl ?_
  refine J_aload_n dX2_valueCounts_32 rfl ?_
  refine J_iload_n dX2_valueCounts_33 rfl ?_
  refine J_iconstN (n := 2) dX2_valueCounts_34 ?_
  refine J_icmp_neN dX2_valueCounts_35 (by decide) (by decide) (fun c0 => ?_) (fun c0 => absurd c0 (by decide))
  refine J_lconst (x := 0) dX2_valueCounts_42 rfl ?_
  refine J_putL dX2_valueCounts_43 fX2_42 s92 rfl rfl ?_
  refine J_aload_n dX2_valueCounts_46 rfl ?_
  refine J_iload_n dX2_valueCounts_47 rfl ?_
  refine J_iconstN (n := 3) dX2_valueCounts_48 ?_
  refine J_icmp_neN dX2_valueCounts_49 (by decide) (by decide) (fun c0 => ?_) (fun c0 => absurd c0 (by decide))
  refine J_lconst (x := 0) dX2_valueCounts_56 rfl ?_
  refine J_putL dX2_valueCounts_57 fX2_45 s92 rfl rfl ?_
  refine J_aload_n dX2_valueCounts_60 rfl ?_
  refine J_iload_n dX2_valueCounts_61 rfl ?_
  refine J_iconstN (n := 4) dX2_valueCounts_62 ?_
  refine J_icmp_neN dX2_valueCounts_63 (by decide) (by decide) (fun c0 => absurd c0 (by decide)) (fun c0 => ?_)
  refine J_lconst (x := 1) dX2_valueCounts_66 rfl ?_
  refine J_goto dX2_valueCounts_67 ?_
  refine J_putL dX2_valueCounts_71 fX2_48 s92 rfl rfl ?_
  exact J_retV dX2_valueCounts_74 rfl ⟨⟨((xIL).trans ((xIL).trans ((xIL).trans ((xIL).trans ((xIL).trans (rI_s)))))), ((rL_k (by decide)).trans ((rL_k (by decide)).trans ((rL_k (by decide)).trans ((rL_k (by decide)).trans (rL_s))))), ((rL_k (by decide)).trans ((rL_k (by decide)).trans ((rL_k (by decide)).trans (rL_s)))), ((rL_k (by decide)).trans ((rL_k (by decide)).trans (rL_s))), ((rL_k (by decide)).trans (rL_s)), by decide⟩, (rL_s), Fr.sI (by omega) (by omega) |>.tr (Fr.sL (by omega) (by omega)) |>.tr (Fr.sL (by omega) (by omega)) |>.tr (Fr.sL (by omega) (by omega)) |>.tr (Fr.sL (by omega) (by omega)) |>.tr (Fr.sL (by omega) (by omega))⟩
theorem c_X2_valueSafety {h : PH} (hG : GR h.2.2) : CtV mX2_valueSafety h [pR (some 92)] (fun h' => h' = sI h 92 5 (nI 1)) := by
  refine Ct.of (L := [some (pR (some 92))]) rfl rfl (Nat.le_of_ble_eq_true rfl) rfl ?_
  refine J_aload_n dX2_valueSafety_0 rfl ?_
  refine J_iconstN (n := 1) dX2_valueSafety_1 ?_
  refine J_putI dX2_valueSafety_2 fX2_31 s92 rfl rfl rfl (fun _ _ => rfl) ?_
  exact J_retV dX2_valueSafety_5 rfl rfl
theorem c_X2_setSledge {h : PH} {a b c d : Nat} (hG : GR h.2.2) : CtV mX2_setSledge h [pR (some 92), pI (nI a), pI (nI b), pI (nI c), pI (nI d)] (fun h' => h' = sI (sI (sI (sI h 92 12 (nI a)) 92 13 (nI b)) 92 14 (nI c)) 92 15 (nI d)) := by
  refine Ct.of (L := [some (pR (some 92)), some (pI (nI a)), some (pI (nI b)), some (pI (nI c)), some (pI (nI d))]) rfl rfl (Nat.le_of_ble_eq_true rfl) rfl ?_
  refine J_aload_n dX2_setSledge_0 rfl ?_
  refine J_iload_n dX2_setSledge_1 rfl ?_
  refine J_putI dX2_setSledge_2 fX2_149 s92 rfl (vp_nar_int _) rfl (fun _ _ => rfl) ?_
  refine J_aload_n dX2_setSledge_5 rfl ?_
  refine J_iload_n dX2_setSledge_6 rfl ?_
  refine J_putI dX2_setSledge_7 fX2_152 s92 rfl (vp_nar_int _) rfl (fun _ _ => rfl) ?_
  refine J_aload_n dX2_setSledge_10 rfl ?_
  refine J_iload_n dX2_setSledge_11 rfl ?_
  refine J_putI dX2_setSledge_12 fX2_155 s92 rfl (vp_nar_int _) rfl (fun _ _ => rfl) ?_
  refine J_aload_n dX2_setSledge_15 rfl ?_
  refine J_iload dX2_setSledge_16 rfl ?_
  refine J_putI dX2_setSledge_18 fX2_158 s92 rfl (vp_nar_int _) rfl (fun _ _ => rfl) ?_
  exact J_retV dX2_setSledge_21 rfl rfl
theorem c_X2_bestOrder {h : PH} (hG : GR h.2.2) : CtI mX2_bestOrder h [pR (some 92)] (fun v h' => v = nI (bst (h.2.1 94) 40) ∧ h' = h) := by
  refine Ct.of (L := [some (pR (some 92)), none, none]) rfl rfl (Nat.le_of_ble_eq_true rfl) rfl ?_
  refine J_iconstN (n := 0) dX2_bestOrder_0 ?_
  refine J_istore_n (L' := [some (pR (some 92)), some (pI (nI 0)), none]) dX2_bestOrder_1 (by decide) rfl ?_
  refine J_iconstN (n := 1) dX2_bestOrder_2 ?_
  refine J_istore_n (L' := [some (pR (some 92)), some (pI (nI 0)), some (pI (nI 1))]) dX2_bestOrder_3 (by decide) rfl ?_
  refine J_L (L' := [some (pR (some 92)), some (pI (nI (bst (h.2.1 94) 0))), some (pI (nI (0 + 1)))]) rfl ?_
  refine J_for (L := fun i => [some (pR (some 92)), some (pI (nI (bst (h.2.1 94) i))), some (pI (nI (i + 1)))]) (hf := fun i => h) (e := 40) ?_ (fun i hi ih => ?_) 0 (by omega)
  · show J _ _ _ _ _ [some (pR (some 92)), some (pI (nI (bst (h.2.1 94) 40))), some (pI (nI (40 + 1)))] _ _ (h)
    refine J_iload_n dX2_bestOrder_4 rfl ?_
    refine J_bipush (x := nI 40) dX2_bestOrder_5 (by decide) ?_
    refine J_icmp_gtN dX2_bestOrder_7 (by omega) (by omega) (fun c1 => ?_) (fun c1 => ?_)
    · refine J_iload_n dX2_bestOrder_34 rfl ?_
      exact J_retI dX2_bestOrder_35 rfl ⟨rfl, rfl⟩
    · exact (show False by omega).elim
  · show J _ _ _ _ _ [some (pR (some 92)), some (pI (nI (bst (h.2.1 94) i))), some (pI (nI (i + 1)))] _ _ (h)
    have bi := bst_le (h.2.1 94) i
    refine J_iload_n dX2_bestOrder_4 rfl ?_
    refine J_bipush (x := nI 40) dX2_bestOrder_5 (by decide) ?_
    refine J_icmp_gtN dX2_bestOrder_7 (by omega) (by omega) (fun c2 => ?_) (fun c2 => ?_)
    · exact (show False by omega).elim
    · refine J_aload_n dX2_bestOrder_10 rfl ?_
      refine J_getR (r := some 94) dX2_bestOrder_11 fX2_15 s92 (fun _ => rfl) (g92_1 hG) ?_
      refine J_iload_n dX2_bestOrder_14 rfl ?_
      refine J_laldN dX2_bestOrder_15 s94 (by decide) (by omega) ?_
      refine J_aload_n dX2_bestOrder_16 rfl ?_
      refine J_getR (r := some 94) dX2_bestOrder_17 fX2_15 s92 (fun _ => rfl) (g92_1 hG) ?_
      refine J_iload_n dX2_bestOrder_20 rfl ?_
      refine J_laldN dX2_bestOrder_21 s94 (by decide) (by omega) ?_
      refine J_lcmp dX2_bestOrder_22 ?_
      refine J_lif_le dX2_bestOrder_23 (fun c3 => ?_) (fun c3 => ?_)
      · refine J_iincN (n := 1) (L' := [some (pR (some 92)), some (pI (nI (bst (h.2.1 94) i))), some (pI (nI (i + 1 + 1)))]) dX2_bestOrder_28 rfl (by decide) rfl ?_
        refine J_goto dX2_bestOrder_31 ?_
        refine J_L (L' := [some (pR (some 92)), some (pI (nI (bst (h.2.1 94) ((i + 1))))), some (pI (nI ((i + 1) + 1)))]) (by grind [bst]) ?_
        exact ih
      · refine J_iload_n dX2_bestOrder_26 rfl ?_
        refine J_istore_n (L' := [some (pR (some 92)), some (pI (nI (i + 1))), some (pI (nI (i + 1)))]) dX2_bestOrder_27 (by decide) rfl ?_
        refine J_iincN (n := 1) (L' := [some (pR (some 92)), some (pI (nI (i + 1))), some (pI (nI (i + 1 + 1)))]) dX2_bestOrder_28 rfl (by decide) rfl ?_
        refine J_goto dX2_bestOrder_31 ?_
        refine J_L (L' := [some (pR (some 92)), some (pI (nI (bst (h.2.1 94) ((i + 1))))), some (pI (nI ((i + 1) + 1)))]) (by grind [bst]) ?_
        exact ih
theorem c_X2_passWinter {h : PH} {th w rk rl so sf k m : Nat} {u : Nat → Nat} {pg pl pm ps pe : Int64} (hG : GR h.2.2) (hth : IsTh th) (hw : w < 4) (hT : TH h th rk rl so) (hU : WA h (th + 2 + w) u) (hO : OL h sf pg pl pm ps) (hE : h.2.1 92 10 = pe) (bk : k < 100) (bm : m < 61) : CtV mX2_passWinter h [pR (some 92), pR (some th), pI (nI w), pI (nI k), pI (nI m)] (fun h' => (∀ s, s ≤ m → h'.2.1 93 s = VB rk rl so u sf pg pl pm ps 1 (EV sf pe) k s) ∧ FP h h') := by
  have hl1 := hth.lt
  refine Ct.of (L := [some (pR (some 92)), some (pR (some th)), some (pI (nI w)), some (pI (nI k)), some (pI (nI m))]) rfl rfl (Nat.le_of_ble_eq_true rfl) rfl ?_
  refine J_aload_n dX2_passWinter_0 rfl ?_
  refine J_iload dX2_passWinter_1 rfl ?_
  refine J_cVV (ci := 2) (c := 92) (as := [pI (nI m)]) (st := []) dX2_passWinter_3 lX2_109 okX2_valueEnd vX2_valueEnd s92 (by decide) rfl rfl rfl (Nat.le_of_ble_eq_true rfl) ⟨Nat.le_of_ble_eq_true rfl, Nat.le_of_ble_eq_true rfl⟩ CR.f (c_X2_valueEnd (sf := sf) (pe := pe) hG (hO.1) hO.2.2.2.2.2 (hE) (by omega)) (fun g1 e1 => ?_)
  subst e1
  have f1 : FO h (sL (wL h 93 (fil (EV sf pe) (m + 1) (h.2.1 93))) 92 11 1) := (FO.wl (Or.inl rfl)).tr FO.ways
  refine J_aload_n dX2_passWinter_6 rfl ?_
  refine J_aload_n dX2_passWinter_7 rfl ?_
  refine J_iload_n dX2_passWinter_8 rfl ?_
  refine J_iload_n dX2_passWinter_9 rfl ?_
  refine J_iload dX2_passWinter_10 rfl ?_
  refine J_cVV (ci := 2) (c := 92) (as := [pR (some th), pI (nI w), pI (nI k), pI (nI m)]) (st := []) dX2_passWinter_12 lX2_113 okX2_weeksBack vX2_weeksBack s92 (by decide) rfl rfl rfl (Nat.le_of_ble_eq_true rfl) ⟨Nat.le_of_ble_eq_true rfl, Nat.le_of_ble_eq_true rfl⟩ CR.f (c_X2_weeksBack (u := u) (V := EV sf pe) (ways := 1) (f1.fr.g hG) hth (by omega) (hT.fr f1.fr (by omega)) (WA.fr hU f1.fr (by omega)) (hO.fo f1) rL_s (fun s hs => by rw [rL_c (by decide), rWL_s, fil_in (by omega)]) (by omega) (by omega)) (fun g2 e2 => ?_)
  obtain ⟨hA, hB, hC⟩ := e2
  exact J_retV dX2_passWinter_15 rfl ⟨hA, FP.of (f1.tr hC)⟩
theorem c_X2_passAny {h0 : PH} {p th pa n k m rk rl so sf : Nat} {u : Nat → Nat → Nat} {x : Nat → Int64} {pg pl pm ps pe : Int64} (hG0 : GR h0.2.2) (hp : IsPo p) (hth : IsTh th) (hpa : SHF[pa]? = some (.inr (3, 4)) ∧ (pa < 92 ∨ 97 < pa)) (hn : h0.1 p 3 = nI n) (bn : n ≤ 4) (hx : ∀ w, w < n → h0.2.1 pa w = x w) (hT0 : TH h0 th rk rl so) (hU0 : ∀ w, w < n → WA h0 (th + 2 + w) (u w)) (hO0 : OL h0 sf pg pl pm ps) (hE0 : h0.2.1 92 10 = pe) (bk : k < 100) (bm : m < 61) : CtV mX2_passAny h0 [pR (some 92), pR (some p), pR (some th), pR (some pa), pI (nI k), pI (nI m)] (fun h' => (∀ s, s ≤ m → h'.2.1 94 s = anyS rk rl so u sf pg pl pm ps (EV sf pe) x k s n) ∧ FP h0 h') := by
  have hl1 := hth.lt
  have hl2 := hp.lt
  refine Ct.of (L := [some (pR (some 92)), some (pR (some p)), some (pR (some th)), some (pR (some pa)), some (pI (nI k)), some (pI (nI m)), none]) rfl rfl (Nat.le_of_ble_eq_true rfl) rfl ?_
  refine J_aload_n dX2_passAny_0 rfl ?_
  refine J_iload dX2_passAny_1 rfl ?_
  refine J_cVV (ci := 2) (c := 92) (as := [pI (nI m)]) (st := []) dX2_passAny_3 lX2_116 okX2_clearAny vX2_clearAny s92 (by decide) rfl rfl rfl (Nat.le_of_ble_eq_true rfl) ⟨Nat.le_of_ble_eq_true rfl, Nat.le_of_ble_eq_true rfl⟩ CR.f (c_X2_clearAny hG0 (by omega)) (fun g0 e0 => ?_)
  subst e0
  refine J_iconstN (n := 0) dX2_passAny_6 ?_
  refine J_istore (L' := [some (pR (some 92)), some (pR (some p)), some (pR (some th)), some (pR (some pa)), some (pI (nI k)), some (pI (nI m)), some (pI (nI 0))]) dX2_passAny_7 (by decide) rfl ?_
  refine J_forI (α := Unit) (L := fun i aa => [some (pR (some 92)), some (pR (some p)), some (pR (some th)), some (pR (some pa)), some (pI (nI k)), some (pI (nI m)), some (pI (nI i))]) (fun i aa h => (∀ s, s ≤ m → h.2.1 94 s = anyS rk rl so u sf pg pl pm ps (EV sf pe) x k s i) ∧ FP h0 h) (e := n) (fun aa h hI => ?_) (fun i aa h hi hI ih => ?_) 0 (()) _ (by omega) (⟨fun s hs => by rw [rWL_s, fil_in (by omega)]; rfl, FP.any⟩)
  · show J _ _ _ _ _ [some (pR (some 92)), some (pR (some p)), some (pR (some th)), some (pR (some pa)), some (pI (nI k)), some (pI (nI m)), some (pI (nI n))] _ _ h
    obtain ⟨h1, h2⟩ := hI
    have hG := h2.1.g hG0
    have hT := hT0.fr h2.1 (by omega)
    have hO := hO0.fp h2
    have hE := (h2.2.2.1 10 (by decide)).trans hE0
    refine J_iload dX2_passAny_9 rfl ?_
    refine J_aload_n dX2_passAny_11 rfl ?_
    refine J_getI dX2_passAny_12 fX2_119 hp.s (fun _ => rfl) ?_
    refine J_cvI (((h2.1.i (by omega)).trans hn)) ?_
    refine J_icmp_geN dX2_passAny_15 (by omega) (by omega) (fun c1 => ?_) (fun c1 => ?_)
    · exact J_retV dX2_passAny_51 rfl ⟨h1, h2⟩
    · exact (show False by omega).elim
  · show J _ _ _ _ _ [some (pR (some 92)), some (pR (some p)), some (pR (some th)), some (pR (some pa)), some (pI (nI k)), some (pI (nI m)), some (pI (nI i))] _ _ h
    obtain ⟨h1, h2⟩ := hI
    have hG := h2.1.g hG0
    have hT := hT0.fr h2.1 (by omega)
    have hO := hO0.fp h2
    have hE := (h2.2.2.1 10 (by decide)).trans hE0
    have hU := (hU0 i hi).fr h2.1 (by omega)
    refine J_iload dX2_passAny_9 rfl ?_
    refine J_aload_n dX2_passAny_11 rfl ?_
    refine J_getI dX2_passAny_12 fX2_119 hp.s (fun _ => rfl) ?_
    refine J_cvI (((h2.1.i (by omega)).trans hn)) ?_
    refine J_icmp_geN dX2_passAny_15 (by omega) (by omega) (fun c2 => ?_) (fun c2 => ?_)
    · exact (show False by omega).elim
    · refine J_aload_n dX2_passAny_18 rfl ?_
      refine J_iload dX2_passAny_19 rfl ?_
      refine J_cVV (ci := 2) (c := 92) (as := [pI (nI m)]) (st := []) dX2_passAny_21 lX2_109 okX2_valueEnd vX2_valueEnd s92 (by decide) rfl rfl rfl (Nat.le_of_ble_eq_true rfl) ⟨Nat.le_of_ble_eq_true rfl, Nat.le_of_ble_eq_true rfl⟩ CR.f (c_X2_valueEnd (sf := sf) (pe := pe) hG (hO.1) hO.2.2.2.2.2 (hE) (by omega)) (fun g1 e1 => ?_)
      subst e1
      have f1 : FO h (sL (wL h 93 (fil (EV sf pe) (m + 1) (h.2.1 93))) 92 11 1) := (FO.wl (Or.inl rfl)).tr FO.ways
      refine J_aload_n dX2_passAny_24 rfl ?_
      refine J_aload_n dX2_passAny_25 rfl ?_
      refine J_iload dX2_passAny_26 rfl ?_
      refine J_iload dX2_passAny_28 rfl ?_
      refine J_iload dX2_passAny_30 rfl ?_
      refine J_cVV (ci := 2) (c := 92) (as := [pR (some th), pI (nI i), pI (nI k), pI (nI m)]) (st := []) dX2_passAny_32 lX2_113 okX2_weeksBack vX2_weeksBack s92 (by decide) rfl rfl rfl (Nat.le_of_ble_eq_true rfl) ⟨Nat.le_of_ble_eq_true rfl, Nat.le_of_ble_eq_true rfl⟩ CR.f (c_X2_weeksBack (u := u i) (V := EV sf pe) (ways := 1) (f1.fr.g hG) hth (by omega) (hT.fr f1.fr (by omega)) (WA.fr hU f1.fr (by omega)) (hO.fo f1) rL_s (fun s hs => by rw [rL_c (by decide), rWL_s, fil_in (by omega)]) (by omega) (by omega)) (fun g2 e2 => ?_)
      obtain ⟨hA, hB, hC⟩ := e2
      refine J_aload_n dX2_passAny_35 rfl ?_
      refine J_aload_n dX2_passAny_36 rfl ?_
      refine J_iload dX2_passAny_37 rfl ?_
      refine J_laldN dX2_passAny_39 hpa.1 (by decide) (by omega) ?_
      refine J_cvL (((hC.fr.l hpa.2).trans ((f1.fr.l hpa.2).trans ((h2.1.l hpa.2).trans (hx i hi))))) ?_
      refine J_iload dX2_passAny_40 rfl ?_
      refine J_cVV (ci := 2) (c := 92) (as := [pL (x i), pI (nI m)]) (st := []) dX2_passAny_42 lX2_124 okX2_addToAny vX2_addToAny s92 (by decide) rfl rfl rfl (Nat.le_of_ble_eq_true rfl) ⟨Nat.le_of_ble_eq_true rfl, Nat.le_of_ble_eq_true rfl⟩ CR.f (c_X2_addToAny (hC.fr.g (f1.fr.g hG)) (by omega)) (fun g3 e3 => ?_)
      subst e3
      refine J_iincN (n := 1) (L' := [some (pR (some 92)), some (pR (some p)), some (pR (some th)), some (pR (some pa)), some (pI (nI k)), some (pI (nI m)), some (pI (nI (i + 1)))]) dX2_passAny_45 rfl (by decide) rfl ?_
      refine J_goto dX2_passAny_48 ?_
      refine ih () _ ⟨fun s hs => ?_, h2.tr ((FP.of (f1.tr hC)).tr FP.any)⟩
      rw [rWL_s, fil_in (by omega), hA s hs, (hC.1 94 (by omega)).2, (f1.1 94 (by omega)).2, h1 s hs]; rfl
