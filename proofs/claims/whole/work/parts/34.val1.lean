theorem c_X9_isAnyWinter {h : PH} {p : Nat} {A : AS} {w : Int32} (hG : GR h.2.2) (hX : XI h p A) (hW : WF A) : CtI mX9_isAnyWinter h [pR (some 0), pI w] (fun v h' => v = bI (w = -1 ∧ 0 < aP A 0 2 0) ∧ h' = h) := by
  have bN := hW.1
  have bk := hW.wk
  have bc := hW.cs
  have bw := hW.wn
  have bt := hW.tn
  have bf := hW.fn
  refine Ct.of (L := [some (pR (some 0)), some (pI w)]) rfl rfl (Nat.le_of_ble_eq_true rfl) rfl ?_
  refine J_iload_n dX9_isAnyWinter_0 rfl ?_
  refine J_iconst (x := -1) dX9_isAnyWinter_1 (by decide) ?_
  refine J_icmp_ne dX9_isAnyWinter_2 (fun c1 => ?_) (fun c1 => ?_)
  · refine J_iconstN (n := 0) dX9_isAnyWinter_19 ?_
    exact J_retZ dX9_isAnyWinter_20 rfl rfl ⟨by first | exact bI_t ⟨c1, by omega⟩ | exact bI_f (fun q => absurd q.1 c1) | exact bI_f (fun q => by omega), rfl⟩
  · refine J_aload_n dX9_isAnyWinter_5 rfl ?_
    refine J_getR (r := some p) dX9_isAnyWinter_6 fX9_20 s0 (fun _ => rfl) (hX.cu) ?_
    refine J_getI dX9_isAnyWinter_9 fX9_110 hX.po.s (fun _ => rfl) ?_
    refine J_cvI (hX.wn) ?_
    refine J_if_leN dX9_isAnyWinter_12 (by omega) (fun c2 => ?_) (fun c2 => ?_)
    · refine J_iconstN (n := 0) dX9_isAnyWinter_19 ?_
      exact J_retZ dX9_isAnyWinter_20 rfl rfl ⟨by first | exact bI_t ⟨c1, by omega⟩ | exact bI_f (fun q => absurd q.1 c1) | exact bI_f (fun q => by omega), rfl⟩
    · refine J_iconstN (n := 1) dX9_isAnyWinter_15 ?_
      refine J_goto dX9_isAnyWinter_16 ?_
      exact J_retZ dX9_isAnyWinter_20 rfl rfl ⟨by first | exact bI_t ⟨c1, by omega⟩ | exact bI_f (fun q => absurd q.1 c1) | exact bI_f (fun q => by omega), rfl⟩
theorem c_X9_isWeek {h : PH} {p : Nat} {A : AS} {w : Int32} (hG : GR h.2.2) (hX : XI h p A) (hW : WF A) : CtI mX9_isWeek h [pR (some 0), pI w] (fun v h' => v = bI (inR w (aP A 0 0 0)) ∧ h' = h) := by
  have bN := hW.1
  have bk := hW.wk
  have bc := hW.cs
  have bw := hW.wn
  have bt := hW.tn
  have bf := hW.fn
  refine Ct.of (L := [some (pR (some 0)), some (pI w)]) rfl rfl (Nat.le_of_ble_eq_true rfl) rfl ?_
  refine J_iload_n dX9_isWeek_0 rfl ?_
  refine J_if_lt dX9_isWeek_1 (fun c1 => ?_) (fun c1 => ?_)
  · refine J_iconstN (n := 0) dX9_isWeek_19 ?_
    exact J_retZ dX9_isWeek_20 rfl rfl ⟨by first | exact bI_t (inR_b (by omega) c1 c2) | exact bI_f (fun q => absurd (lt_0_.mp c1) (by omega)) | exact bI_f (fun q => absurd ((nI_le_ (by omega)).mp c2) (by omega)), rfl⟩
  · refine J_iload_n dX9_isWeek_4 rfl ?_
    refine J_aload_n dX9_isWeek_5 rfl ?_
    refine J_getR (r := some p) dX9_isWeek_6 fX9_20 s0 (fun _ => rfl) (hX.cu) ?_
    refine J_getI dX9_isWeek_9 fX9_104 hX.po.s (fun _ => rfl) ?_
    refine J_cvI (hX.wk) ?_
    refine J_icmp_ge dX9_isWeek_12 (fun c2 => ?_) (fun c2 => ?_)
    · refine J_iconstN (n := 0) dX9_isWeek_19 ?_
      exact J_retZ dX9_isWeek_20 rfl rfl ⟨by first | exact bI_t (inR_b (by omega) c1 c2) | exact bI_f (fun q => absurd (lt_0_.mp c1) (by omega)) | exact bI_f (fun q => absurd ((nI_le_ (by omega)).mp c2) (by omega)), rfl⟩
    · refine J_iconstN (n := 1) dX9_isWeek_15 ?_
      refine J_goto dX9_isWeek_16 ?_
      exact J_retZ dX9_isWeek_20 rfl rfl ⟨by first | exact bI_t (inR_b (by omega) c1 c2) | exact bI_f (fun q => absurd (lt_0_.mp c1) (by omega)) | exact bI_f (fun q => absurd ((nI_le_ (by omega)).mp c2) (by omega)), rfl⟩
theorem c_X9_isOutlook {h : PH} {p : Nat} {A : AS} {t q w : Int32} (hG : GR h.2.2) (hX : XI h p A) (hW : WF A) : CtI mX9_isOutlook h [pR (some 0), pI t, pI q, pI w] (fun v h' => v = bI (okO (aP A) t q w) ∧ h' = h) := by
  have bN := hW.1
  have bk := hW.wk
  have bc := hW.cs
  have bw := hW.wn
  have bt := hW.tn
  have bf := hW.fn
  refine Ct.of (L := [some (pR (some 0)), some (pI t), some (pI q), some (pI w)]) rfl rfl (Nat.le_of_ble_eq_true rfl) rfl ?_
  refine J_aload_n dX9_isOutlook_0 rfl ?_
  refine J_iload_n dX9_isOutlook_1 rfl ?_
  refine J_cVI (ci := 9) (c := 0) (as := [pI t]) (st := []) dX9_isOutlook_2 lX9_130 okX9_hasThing vX9_hasThing s0 (by decide) rfl rfl rfl (Nat.le_of_ble_eq_true rfl) ⟨Nat.le_of_ble_eq_true rfl, Nat.le_of_ble_eq_true rfl⟩ CR.f (c_X9_hasThing hG hX.po hX.cu hX.tn (by omega)) (fun vq1 gq1 eq1 => ?_)
  obtain ⟨rfl, fq1⟩ := eq1
  rw [fq1]
  refine J_if_eqB dX9_isOutlook_5 (fun c1 => ?_) (fun c1 => ?_)
  · refine J_iconstN (n := 0) dX9_isOutlook_35 ?_
    exact J_retZ dX9_isOutlook_36 rfl rfl ⟨by first | exact bI_t ⟨c1, c2, Or.inl c3⟩ | exact bI_t ⟨c1, c2, Or.inr c4⟩ | exact bI_f (fun q => c1 q.1) | exact bI_f (fun q => c2 q.2.1) | exact bI_f (fun q => q.2.2.elim c3 c4), rfl⟩
  · refine J_iload_n dX9_isOutlook_8 rfl ?_
    refine J_cSI (as := [pI q]) (st := []) dX9_isOutlook_9 lX9_171 okX9_isOrder sX9_isOrder rfl rfl (Nat.le_of_ble_eq_true rfl) ⟨Nat.le_of_ble_eq_true rfl, Nat.le_of_ble_eq_true rfl⟩ CR.f (c_X9_isOrder) (fun vq3 gq3 eq3 => ?_)
    obtain ⟨rfl, fq3⟩ := eq3
    rw [fq3]
    refine J_if_eqB dX9_isOutlook_12 (fun c2 => ?_) (fun c2 => ?_)
    · refine J_iconstN (n := 0) dX9_isOutlook_35 ?_
      exact J_retZ dX9_isOutlook_36 rfl rfl ⟨by first | exact bI_t ⟨c1, c2, Or.inl c3⟩ | exact bI_t ⟨c1, c2, Or.inr c4⟩ | exact bI_f (fun q => c1 q.1) | exact bI_f (fun q => c2 q.2.1) | exact bI_f (fun q => q.2.2.elim c3 c4), rfl⟩
    · refine J_aload_n dX9_isOutlook_15 rfl ?_
      refine J_iload_n dX9_isOutlook_16 rfl ?_
      refine J_cVI (ci := 9) (c := 0) (as := [pI w]) (st := []) dX9_isOutlook_17 lX9_123 okX9_hasWinter vX9_hasWinter s0 (by decide) rfl rfl rfl (Nat.le_of_ble_eq_true rfl) ⟨Nat.le_of_ble_eq_true rfl, Nat.le_of_ble_eq_true rfl⟩ CR.f (c_X9_hasWinter hG hX.po hX.cu hX.wn (by omega)) (fun vq5 gq5 eq5 => ?_)
      obtain ⟨rfl, fq5⟩ := eq5
      rw [fq5]
      refine J_if_neB dX9_isOutlook_20 (fun c3 => ?_) (fun c3 => ?_)
      · refine J_iconstN (n := 1) dX9_isOutlook_31 ?_
        refine J_goto dX9_isOutlook_32 ?_
        exact J_retZ dX9_isOutlook_36 rfl rfl ⟨by first | exact bI_t ⟨c1, c2, Or.inl c3⟩ | exact bI_t ⟨c1, c2, Or.inr c4⟩ | exact bI_f (fun q => c1 q.1) | exact bI_f (fun q => c2 q.2.1) | exact bI_f (fun q => q.2.2.elim c3 c4), rfl⟩
      · refine J_aload_n dX9_isOutlook_23 rfl ?_
        refine J_iload_n dX9_isOutlook_24 rfl ?_
        refine J_cVI (ci := 9) (c := 0) (as := [pI w]) (st := []) dX9_isOutlook_25 lX9_208 okX9_isAnyWinter vX9_isAnyWinter s0 (by decide) rfl rfl rfl (Nat.le_of_ble_eq_true rfl) ⟨Nat.le_of_ble_eq_true rfl, Nat.le_of_ble_eq_true rfl⟩ CR.f (c_X9_isAnyWinter hG hX hW) (fun vq7 gq7 eq7 => ?_)
        obtain ⟨rfl, fq7⟩ := eq7
        rw [fq7]
        refine J_if_eqB dX9_isOutlook_28 (fun c4 => ?_) (fun c4 => ?_)
        · refine J_iconstN (n := 0) dX9_isOutlook_35 ?_
          exact J_retZ dX9_isOutlook_36 rfl rfl ⟨by first | exact bI_t ⟨c1, c2, Or.inl c3⟩ | exact bI_t ⟨c1, c2, Or.inr c4⟩ | exact bI_f (fun q => c1 q.1) | exact bI_f (fun q => c2 q.2.1) | exact bI_f (fun q => q.2.2.elim c3 c4), rfl⟩
        · refine J_iconstN (n := 1) dX9_isOutlook_31 ?_
          refine J_goto dX9_isOutlook_32 ?_
          exact J_retZ dX9_isOutlook_36 rfl rfl ⟨by first | exact bI_t ⟨c1, c2, Or.inl c3⟩ | exact bI_t ⟨c1, c2, Or.inr c4⟩ | exact bI_f (fun q => c1 q.1) | exact bI_f (fun q => c2 q.2.1) | exact bI_f (fun q => q.2.2.elim c3 c4), rfl⟩
theorem c_X10_isAsked {h : PH} {A : AS} {w : Int32} (hG : GR h.2.2) (hM : MI h A) (hW : WF A) : CtI mX10_isAsked h [pR (some 158), pI w] (fun v h' => v = bI (inR w (aP A 0 2 0) ∨ (w = -1 ∧ 0 < aP A 0 2 0)) ∧ h' = h) := by
  have bN := hW.1
  have bk := hW.wk
  have bc := hW.cs
  have bw := hW.wn
  have bt := hW.tn
  have bf := hW.fn
  refine Ct.of (L := [some (pR (some 158)), some (pI w)]) rfl rfl (Nat.le_of_ble_eq_true rfl) rfl ?_
  refine J_iload_n dX10_isAsked_0 rfl ?_
  refine J_iconst (x := -1) dX10_isAsked_1 (by decide) ?_
  refine J_icmp_ne dX10_isAsked_2 (fun c1 => ?_) (fun c1 => ?_)
  · refine J_aload_n dX10_isAsked_12 rfl ?_
    refine J_iload_n dX10_isAsked_13 rfl ?_
    refine J_cVI (ci := 10) (c := 158) (as := [pI w]) (st := []) dX10_isAsked_14 lX10_237 okX10_isWinter vX10_isWinter s158 (by decide) rfl rfl rfl (Nat.le_of_ble_eq_true rfl) ⟨Nat.le_of_ble_eq_true rfl, Nat.le_of_ble_eq_true rfl⟩ CR.f (c_X10_isWinter hG (hM.nm (by decide)) (by omega)) (fun vq2 gq2 eq2 => ?_)
    obtain ⟨rfl, fq2⟩ := eq2
    rw [fq2]
    exact J_retZ dX10_isAsked_17 rfl (bI_nar _) ⟨by first | exact bI_congr ⟨fun q => Or.inr ⟨c1, q⟩, fun q => q.elim (fun z => absurd z.1 (by rw [c1]; decide)) (fun z => z.2)⟩ | exact bI_congr ⟨fun q => Or.inl q, fun q => q.elim id (fun z => absurd z.1 c1)⟩, rfl⟩
  · refine J_aload_n dX10_isAsked_5 rfl ?_
    refine J_cVI (ci := 10) (c := 158) (as := []) (st := []) dX10_isAsked_6 lX10_234 okX10_hasWinters vX10_hasWinters s158 (by decide) rfl rfl rfl (Nat.le_of_ble_eq_true rfl) ⟨Nat.le_of_ble_eq_true rfl, Nat.le_of_ble_eq_true rfl⟩ CR.f (c_X10_hasWinters hG (hM.nm (by decide)) (by omega)) (fun vq3 gq3 eq3 => ?_)
    obtain ⟨rfl, fq3⟩ := eq3
    rw [fq3]
    refine J_goto dX10_isAsked_9 ?_
    exact J_retZ dX10_isAsked_17 rfl (bI_nar _) ⟨by first | exact bI_congr ⟨fun q => Or.inr ⟨c1, q⟩, fun q => q.elim (fun z => absurd z.1 (by rw [c1]; decide)) (fun z => z.2)⟩ | exact bI_congr ⟨fun q => Or.inl q, fun q => q.elim id (fun z => absurd z.1 c1)⟩, rfl⟩
theorem c_X9_waysIn_any {h : PH} {p : Nat} {A : AS} (hG : GR h.2.2) (hX : XI h p A) (hW : WF A) : CtL mX9_waysIn h [pR (some 0), pI (-1)] (fun v h' => v = tenL (aP A 0 0 0 + 1) ∧ h' = h) := by
  have bN := hW.1
  have bk := hW.wk
  have bc := hW.cs
  have bw := hW.wn
  have bt := hW.tn
  have bf := hW.fn
  refine Ct.of (L := [some (pR (some 0)), some (pI ((-1)))]) rfl rfl (Nat.le_of_ble_eq_true rfl) rfl ?_
  refine J_iload_n dX9_waysIn_0 rfl ?_
  refine J_iconst (x := -1) dX9_waysIn_1 (by decide) ?_
  refine J_icmp_ne dX9_waysIn_2 (fun c1 => ?_) (fun c1 => ?_)
  · exact absurd rfl c1
  · refine J_aload_n dX9_waysIn_5 rfl ?_
    refine J_getR (r := some p) dX9_waysIn_6 fX9_20 s0 (fun _ => rfl) (hX.cu) ?_
    refine J_getI dX9_waysIn_9 fX9_104 hX.po.s (fun _ => rfl) ?_
    refine J_cvI (hX.wk) ?_
    refine J_iconstN (n := 1) dX9_waysIn_12 ?_
    refine J_iaddN dX9_waysIn_13 ?_
    refine J_goto dX9_waysIn_14 ?_
    refine J_cSL (as := [pI (nI (aP A 0 0 0 + 1))]) (st := []) dX9_waysIn_24 lX9_225 okX9_tenTo sX9_tenTo rfl rfl (Nat.le_of_ble_eq_true rfl) ⟨Nat.le_of_ble_eq_true rfl, Nat.le_of_ble_eq_true rfl⟩ CR.f (c_X9_tenTo (by omega)) (fun vq2 gq2 eq2 => ?_)
    obtain ⟨rfl, fq2⟩ := eq2
    rw [fq2]
    exact J_retL dX9_waysIn_27 rfl ⟨rfl, rfl⟩
theorem c_X9_waysIn_in {h : PH} {p : Nat} {A : AS} {w : Nat} (hG : GR h.2.2) (hX : XI h p A) (hW : WF A) (hw : w < 4) : CtL mX9_waysIn h [pR (some 0), pI (nI w)] (fun v h' => v = tenL (aP A 0 0 0) ∧ h' = h) := by
  have bN := hW.1
  have bk := hW.wk
  have bc := hW.cs
  have bw := hW.wn
  have bt := hW.tn
  have bf := hW.fn
  refine Ct.of (L := [some (pR (some 0)), some (pI (nI w))]) rfl rfl (Nat.le_of_ble_eq_true rfl) rfl ?_
  refine J_iload_n dX9_waysIn_0 rfl ?_
  refine J_iconst (x := -1) dX9_waysIn_1 (by decide) ?_
  refine J_icmp_ne dX9_waysIn_2 (fun c1 => ?_) (fun c1 => ?_)
  · refine J_aload_n dX9_waysIn_17 rfl ?_
    refine J_getR (r := some p) dX9_waysIn_18 fX9_20 s0 (fun _ => rfl) (hX.cu) ?_
    refine J_getI dX9_waysIn_21 fX9_104 hX.po.s (fun _ => rfl) ?_
    refine J_cvI (hX.wk) ?_
    refine J_cSL (as := [pI (nI (aP A 0 0 0))]) (st := []) dX9_waysIn_24 lX9_225 okX9_tenTo sX9_tenTo rfl rfl (Nat.le_of_ble_eq_true rfl) ⟨Nat.le_of_ble_eq_true rfl, Nat.le_of_ble_eq_true rfl⟩ CR.f (c_X9_tenTo (by omega)) (fun vq2 gq2 eq2 => ?_)
    obtain ⟨rfl, fq2⟩ := eq2
    rw [fq2]
    exact J_retL dX9_waysIn_27 rfl ⟨rfl, rfl⟩
  · exact absurd c1 (nI_m1 (by omega))
theorem c_X9_valueAt_any {h : PH} {p : Nat} {A : AS} {t q sf : Nat} {pg pl pm ps pe : Int64} (hG : GR h.2.2) (hX : XI h p A) (hW : WF A) (ht : t < aP A 0 3 0) (hO : OL h sf pg pl pm ps) (hE : h.2.1 92 10 = pe) (hq : q ≤ 40) : CtL mX9_valueAt h [pR (some 0), pR (some (p + 9 + 7 * t)), pI (nI q), pI (-1)] (fun v h' => v = vS A t sf pg pl pm ps (EV sf pe) (aP A 0 0 0) q ∧ Fr 92 97 h h') := by
  have bN := hW.1
  have bk := hW.wk
  have bc := hW.cs
  have bw := hW.wn
  have bt := hW.tn
  have bf := hW.fn
  refine Ct.of (L := [some (pR (some 0)), some (pR (some (p + 9 + 7 * t))), some (pI (nI q)), some (pI ((-1)))]) rfl rfl (Nat.le_of_ble_eq_true rfl) rfl ?_
  refine J_iload_n dX9_valueAt_0 rfl ?_
  refine J_iconst (x := -1) dX9_valueAt_1 (by decide) ?_
  refine J_icmp_ne dX9_valueAt_2 (fun c1 => ?_) (fun c1 => ?_)
  · exact absurd rfl c1
  · refine J_aload_n dX9_valueAt_5 rfl ?_
    refine J_getR (r := some 92) dX9_valueAt_6 fX9_37 s0 (fun _ => rfl) (g0_5 hG) ?_
    refine J_aload_n dX9_valueAt_9 rfl ?_
    refine J_getR (r := some p) dX9_valueAt_10 fX9_20 s0 (fun _ => rfl) (hX.cu) ?_
    refine J_aload_n dX9_valueAt_13 rfl ?_
    refine J_aload_n dX9_valueAt_14 rfl ?_
    refine J_getR (r := some p) dX9_valueAt_15 fX9_20 s0 (fun _ => rfl) (hX.cu) ?_
    refine J_getR (r := some (p + 1)) dX9_valueAt_18 fX9_127 hX.po.s (fun _ => rfl) (hX.po.e8 hG) ?_
    refine J_aload_n dX9_valueAt_21 rfl ?_
    refine J_getR (r := some p) dX9_valueAt_22 fX9_20 s0 (fun _ => rfl) (hX.cu) ?_
    refine J_getI dX9_valueAt_25 fX9_104 hX.po.s (fun _ => rfl) ?_
    refine J_cvI (hX.wk) ?_
    refine J_iload_n dX9_valueAt_28 rfl ?_
    refine J_cVV (ci := 2) (c := 92) (as := [pR (some p), pR (some (p + 9 + 7 * t)), pR (some (p + 1)), pI (nI (aP A 0 0 0)), pI (nI q)]) (st := []) dX9_valueAt_29 lX9_211 okX2_passAny vX2_passAny s92 (by decide) rfl rfl rfl (Nat.le_of_ble_eq_true rfl) ⟨Nat.le_of_ble_eq_true rfl, Nat.le_of_ble_eq_true rfl⟩ CR.f (c_X2_passAny hG hX.po (hX.th hW ht) ⟨hX.po.s1, by have := hX.po.b; omega⟩ hX.wn (by omega) (x := aX A) (fun w hw => hX.x hw) (hX.ta hW ht).th (u := aV A t) (fun w hw => hX.wa hW ht (by omega)) hO hE (by omega) (by omega)) (fun g1 e1 => ?_)
    obtain ⟨z1, z2⟩ := e1
    have hG := z2.1.g hG
    refine J_aload_n dX9_valueAt_32 rfl ?_
    refine J_getR (r := some 92) dX9_valueAt_33 fX9_37 s0 (fun _ => rfl) (g0_5 hG) ?_
    refine J_getR (r := some 94) dX9_valueAt_36 fX9_215 s92 (fun _ => rfl) (g92_1 hG) ?_
    refine J_iload_n dX9_valueAt_39 rfl ?_
    refine J_laldN dX9_valueAt_40 s94 (by decide) (by omega) ?_
    refine J_cvL ((z1 q (Nat.le_refl q))) ?_
    exact J_retL dX9_valueAt_41 rfl ⟨rfl, z2.1⟩
theorem c_X9_valueAt_in {h : PH} {p : Nat} {A : AS} {t q sf w : Nat} {pg pl pm ps pe : Int64} (hG : GR h.2.2) (hX : XI h p A) (hW : WF A) (ht : t < aP A 0 3 0) (hO : OL h sf pg pl pm ps) (hE : h.2.1 92 10 = pe) (hq : q ≤ 40) (hw : w < 4) : CtL mX9_valueAt h [pR (some 0), pR (some (p + 9 + 7 * t)), pI (nI q), pI (nI w)] (fun v h' => v = vW A t sf pg pl pm ps (EV sf pe) (aP A 0 0 0) q w ∧ Fr 92 97 h h') := by
  have bN := hW.1
  have bk := hW.wk
  have bc := hW.cs
  have bw := hW.wn
  have bt := hW.tn
  have bf := hW.fn
  refine Ct.of (L := [some (pR (some 0)), some (pR (some (p + 9 + 7 * t))), some (pI (nI q)), some (pI (nI w))]) rfl rfl (Nat.le_of_ble_eq_true rfl) rfl ?_
  refine J_iload_n dX9_valueAt_0 rfl ?_
  refine J_iconst (x := -1) dX9_valueAt_1 (by decide) ?_
  refine J_icmp_ne dX9_valueAt_2 (fun c1 => ?_) (fun c1 => ?_)
  · refine J_aload_n dX9_valueAt_42 rfl ?_
    refine J_getR (r := some 92) dX9_valueAt_43 fX9_37 s0 (fun _ => rfl) (g0_5 hG) ?_
    refine J_aload_n dX9_valueAt_46 rfl ?_
    refine J_iload_n dX9_valueAt_47 rfl ?_
    refine J_aload_n dX9_valueAt_48 rfl ?_
    refine J_getR (r := some p) dX9_valueAt_49 fX9_20 s0 (fun _ => rfl) (hX.cu) ?_
    refine J_getI dX9_valueAt_52 fX9_104 hX.po.s (fun _ => rfl) ?_
    refine J_cvI (hX.wk) ?_
    refine J_iload_n dX9_valueAt_55 rfl ?_
    refine J_cVV (ci := 2) (c := 92) (as := [pR (some (p + 9 + 7 * t)), pI (nI w), pI (nI (aP A 0 0 0)), pI (nI q)]) (st := []) dX9_valueAt_56 lX9_218 okX2_passWinter vX2_passWinter s92 (by decide) rfl rfl rfl (Nat.le_of_ble_eq_true rfl) ⟨Nat.le_of_ble_eq_true rfl, Nat.le_of_ble_eq_true rfl⟩ CR.f (c_X2_passWinter hG (hX.th hW ht) hw (hX.ta hW ht).th (hX.wa hW ht hw) hO hE (by omega) (by omega)) (fun g1 e1 => ?_)
    obtain ⟨z1, z2⟩ := e1
    have hG := z2.1.g hG
    refine J_aload_n dX9_valueAt_59 rfl ?_
    refine J_getR (r := some 92) dX9_valueAt_60 fX9_37 s0 (fun _ => rfl) (g0_5 hG) ?_
    refine J_getR (r := some 93) dX9_valueAt_63 fX9_222 s92 (fun _ => rfl) (g92_0 hG) ?_
    refine J_iload_n dX9_valueAt_66 rfl ?_
    refine J_laldN dX9_valueAt_67 s93 (by decide) (by omega) ?_
    refine J_cvL ((z1 q (Nat.le_refl q))) ?_
    exact J_retL dX9_valueAt_68 rfl ⟨rfl, z2.1⟩
  · exact absurd c1 (nI_m1 (by omega))
