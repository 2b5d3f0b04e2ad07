theorem c_X9_end {h : PH} {p : Nat} {A : AS} {n : Int32} (hG : GR h.2.2) (hX : XI h p A) (hW : WF A) : CtI mX9_end h [pR (some 0), pI n] (fun v h' => v = endA A n ∧ XP h h' p (endS A n)) := by
  have bN := hW.1
  have bk := hW.wk
  have bc := hW.cs
  have bw := hW.wn
  have bt := hW.tn
  have bf := hW.fn
  have bN1 : aN A < 2 ^ 31 := by omega
  refine Ct.of (L := [some (pR (some 0)), some (pI n)]) rfl rfl (Nat.le_of_ble_eq_true rfl) rfl ?_
  refine J_iload_n dX9_end_0 rfl ?_
  refine J_if_lt dX9_end_1 (fun c1 => ?_) (fun c1 => ?_)
  · refine J_iconst (x := -1) dX9_end_12 (by decide) ?_
    exact J_retI dX9_end_13 rfl ⟨by unfold endA; exact (if_neg (fun q => by simp only [inR, Int32.lt_iff_toInt_lt, Int32.le_iff_toInt_le, zT, tI bN1] at q c1 <;> omega)).symm, by unfold endS; rw [if_neg (fun q => by simp only [inR, Int32.lt_iff_toInt_lt, Int32.le_iff_toInt_le, zT, tI bN1] at q c1 <;> omega)]; exact ⟨hX, Fr.rf⟩⟩
  · refine J_iload_n dX9_end_4 rfl ?_
    refine J_aload_n dX9_end_5 rfl ?_
    refine J_getI dX9_end_6 fX9_13 s0 (fun _ => rfl) ?_
    refine J_cvI (hX.2.1.2) ?_
    refine J_icmp_le dX9_end_9 (fun c2 => ?_) (fun c2 => ?_)
    · obtain ⟨j, hj, rfl⟩ := inR_of (inR_c bN1 c1 c2)
      refine J_aload_n dX9_end_14 rfl ?_
      refine J_iload_n dX9_end_15 rfl ?_
      refine J_putI dX9_end_16 fX9_13 s0 rfl (vp_nar_int _) rfl (fun _ _ => rfl) ?_
      refine J_iload_n dX9_end_19 rfl ?_
      have hr : inR (nI j) (aN A + 1) := inR_nI hj (by omega)
      have TT : TP 0 1 h (sI h 0 1 (nI j)) (h.1 1) j := ⟨rW_c (by decide), rI_s, FT.a⟩
      exact J_retI dX9_end_20 rfl ⟨(if_pos hr).symm, by rw [endS, if_pos hr, cl, nI_clamp (by omega)]; exact ⟨hX.tape hW TT (fun i hi => hX.2.1.1 i hi), TT.2.2.fr (by omega) (by omega)⟩⟩
    · refine J_iconst (x := -1) dX9_end_12 (by decide) ?_
      exact J_retI dX9_end_13 rfl ⟨by unfold endA; exact (if_neg (fun q => by simp only [inR, Int32.lt_iff_toInt_lt, Int32.le_iff_toInt_le, zT, tI bN1] at q c1 c2 <;> omega)).symm, by unfold endS; rw [if_neg (fun q => by simp only [inR, Int32.lt_iff_toInt_lt, Int32.le_iff_toInt_le, zT, tI bN1] at q c1 c2 <;> omega)]; exact ⟨hX, Fr.rf⟩⟩
theorem c_X10_end {h : PH} {A : AS} {n : Int32} (hG : GR h.2.2) (hM : MI h A) (hW : WF A) : CtI mX10_end h [pR (some 158), pI n] (fun v h' => v = endA A n ∧ MP h h' (endS A n)) := by
  have bN := hW.1
  have bk := hW.wk
  have bc := hW.cs
  have bw := hW.wn
  have bt := hW.tn
  have bf := hW.fn
  have bN1 : aN A < 2 ^ 31 := by omega
  refine Ct.of (L := [some (pR (some 158)), some (pI n)]) rfl rfl (Nat.le_of_ble_eq_true rfl) rfl ?_
  refine J_iload_n dX10_end_0 rfl ?_
  refine J_if_lt dX10_end_1 (fun c1 => ?_) (fun c1 => ?_)
  · refine J_iconst (x := -1) dX10_end_12 (by decide) ?_
    exact J_retI dX10_end_13 rfl ⟨by unfold endA; exact (if_neg (fun q => by simp only [inR, Int32.lt_iff_toInt_lt, Int32.le_iff_toInt_le, zT, tI bN1] at q c1 <;> omega)).symm, by unfold endS; rw [if_neg (fun q => by simp only [inR, Int32.lt_iff_toInt_lt, Int32.le_iff_toInt_le, zT, tI bN1] at q c1 <;> omega)]; exact ⟨hM, Fr.rf⟩⟩
  · refine J_iload_n dX10_end_4 rfl ?_
    refine J_aload_n dX10_end_5 rfl ?_
    refine J_getI dX10_end_6 fX10_110 s158 (fun _ => rfl) ?_
    refine J_cvI (hM.1.2) ?_
    refine J_icmp_le dX10_end_9 (fun c2 => ?_) (fun c2 => ?_)
    · obtain ⟨j, hj, rfl⟩ := inR_of (inR_c bN1 c1 c2)
      refine J_aload_n dX10_end_14 rfl ?_
      refine J_iload_n dX10_end_15 rfl ?_
      refine J_putI dX10_end_16 fX10_110 s158 rfl (vp_nar_int _) rfl (fun _ _ => rfl) ?_
      refine J_iload_n dX10_end_19 rfl ?_
      have hr : inR (nI j) (aN A + 1) := inR_nI hj (by omega)
      have TT : TP 158 159 h (sI h 158 1 (nI j)) (h.1 159) j := ⟨rW_c (by decide), rI_s, FT.a⟩
      exact J_retI dX10_end_20 rfl ⟨(if_pos hr).symm, by rw [endS, if_pos hr, cl, nI_clamp (by omega)]; exact ⟨hM.tape TT (fun i hi => hM.1.1 i hi), TT.2.2.fr (by omega) (by omega)⟩⟩
    · refine J_iconst (x := -1) dX10_end_12 (by decide) ?_
      exact J_retI dX10_end_13 rfl ⟨by unfold endA; exact (if_neg (fun q => by simp only [inR, Int32.lt_iff_toInt_lt, Int32.le_iff_toInt_le, zT, tI bN1] at q c1 c2 <;> omega)).symm, by unfold endS; rw [if_neg (fun q => by simp only [inR, Int32.lt_iff_toInt_lt, Int32.le_iff_toInt_le, zT, tI bN1] at q c1 c2 <;> omega)]; exact ⟨hM, Fr.rf⟩⟩
theorem c_X9_count {h : PH} {p : Nat} {A : AS} {x : Int32} (hG : GR h.2.2) (hX : XI h p A) (hW : WF A) : CtI mX9_count h [pR (some 0), pI x] (fun v h' => v = countA A x ∧ XP h h' p A) := by
  refine Ct.of (L := [some (pR (some 0)), some (pI x)]) rfl rfl (Nat.le_of_ble_eq_true rfl) rfl ?_
  refine J_iload_n dX9_count_0 rfl ?_
  refine J_if_ne dX9_count_1 (fun c1 => ?_) (fun c1 => ?_)
  · refine J_iload_n dX9_count_12 rfl ?_
    refine J_iconstN (n := 1) dX9_count_13 ?_
    refine J_icmp_ne dX9_count_14 (fun c2 => ?_) (fun c2 => ?_)
    · refine J_iconst (x := -1) dX9_count_24 (by decide) ?_
      exact J_retI dX9_count_25 rfl ⟨by unfold countA; first | rw [if_pos c1] | rw [if_neg c1, if_pos c2] | rw [if_neg c1, if_neg c2], ⟨hX, Fr.rf⟩⟩
    · refine J_aload_n dX9_count_17 rfl ?_
      refine J_getI dX9_count_18 fX9_13 s0 (fun _ => rfl) ?_
      refine J_cvI (hX.2.1.2) ?_
      refine J_goto dX9_count_21 ?_
      exact J_retI dX9_count_25 rfl ⟨by unfold countA; first | rw [if_pos c1] | rw [if_neg c1, if_pos c2] | rw [if_neg c1, if_neg c2], ⟨hX, Fr.rf⟩⟩
  · refine J_aload_n dX9_count_4 rfl ?_
    refine J_getR (r := some p) dX9_count_5 fX9_20 s0 (fun _ => rfl) (hX.cu) ?_
    refine J_getI dX9_count_8 fX9_92 hX.po.s (fun _ => rfl) ?_
    refine J_cvI (hX.cl) ?_
    exact J_retI dX9_count_11 rfl ⟨by unfold countA; first | rw [if_pos c1] | rw [if_neg c1, if_pos c1] | rw [if_neg c1, if_neg c1], ⟨hX, Fr.rf⟩⟩
theorem c_X9_fault {h : PH} {p : Nat} {A : AS} {x : Int32} (hG : GR h.2.2) (hX : XI h p A) (hW : WF A) : CtI mX9_fault h [pR (some 0), pI x] (fun v h' => v = faultA A x ∧ XP h h' p A) := by
  refine Ct.of (L := [some (pR (some 0)), some (pI x)]) rfl rfl (Nat.le_of_ble_eq_true rfl) rfl ?_
  refine J_iload_n dX9_fault_0 rfl ?_
  refine J_if_ne dX9_fault_1 (fun c1 => ?_) (fun c1 => ?_)
  · refine J_iload_n dX9_fault_12 rfl ?_
    refine J_iconstN (n := 1) dX9_fault_13 ?_
    refine J_icmp_ne dX9_fault_14 (fun c2 => ?_) (fun c2 => ?_)
    · refine J_iconst (x := -1) dX9_fault_27 (by decide) ?_
      exact J_retI dX9_fault_28 rfl ⟨by unfold faultA; first | rw [if_pos c1] | rw [if_neg c1, if_pos c2] | rw [if_neg c1, if_neg c2], ⟨hX, Fr.rf⟩⟩
    · refine J_aload_n dX9_fault_17 rfl ?_
      refine J_getR (r := some 88) dX9_fault_18 fX9_30 s0 (fun _ => rfl) (g0_4 hG) ?_
      refine J_getI dX9_fault_21 fX9_101 s88 (fun _ => rfl) ?_
      refine J_cvI (hX.2.2.2.2.1.2) ?_
      refine J_goto dX9_fault_24 ?_
      exact J_retI dX9_fault_28 rfl ⟨by unfold faultA; first | rw [if_pos c1] | rw [if_neg c1, if_pos c2] | rw [if_neg c1, if_neg c2], ⟨hX, Fr.rf⟩⟩
  · refine J_aload_n dX9_fault_4 rfl ?_
    refine J_getR (r := some 88) dX9_fault_5 fX9_30 s0 (fun _ => rfl) (g0_4 hG) ?_
    refine J_getI dX9_fault_8 fX9_98 s88 (fun _ => rfl) ?_
    refine J_cvI (hX.2.2.2.2.1.1) ?_
    exact J_retI dX9_fault_11 rfl ⟨by unfold faultA; first | rw [if_pos c1] | rw [if_neg c1, if_pos c1] | rw [if_neg c1, if_neg c1], ⟨hX, Fr.rf⟩⟩
theorem c_X10_count {h : PH} {A : AS} {x : Int32} (hG : GR h.2.2) (hM : MI h A) (hW : WF A) : CtI mX10_count h [pR (some 158), pI x] (fun v h' => v = countA A x ∧ MP h h' A) := by
  refine Ct.of (L := [some (pR (some 158)), some (pI x)]) rfl rfl (Nat.le_of_ble_eq_true rfl) rfl ?_
  refine J_iload_n dX10_count_0 rfl ?_
  refine J_if_ne dX10_count_1 (fun c1 => ?_) (fun c1 => ?_)
  · refine J_iload_n dX10_count_11 rfl ?_
    refine J_iconstN (n := 1) dX10_count_12 ?_
    refine J_icmp_ne dX10_count_13 (fun c2 => ?_) (fun c2 => ?_)
    · refine J_iconst (x := -1) dX10_count_23 (by decide) ?_
      exact J_retI dX10_count_24 rfl ⟨by unfold countA; first | rw [if_pos c1] | rw [if_neg c1, if_pos c2] | rw [if_neg c1, if_neg c2], ⟨hM, Fr.rf⟩⟩
    · refine J_aload_n dX10_count_16 rfl ?_
      refine J_getI dX10_count_17 fX10_110 s158 (fun _ => rfl) ?_
      refine J_cvI (hM.1.2) ?_
      refine J_goto dX10_count_20 ?_
      exact J_retI dX10_count_24 rfl ⟨by unfold countA; first | rw [if_pos c1] | rw [if_neg c1, if_pos c2] | rw [if_neg c1, if_neg c2], ⟨hM, Fr.rf⟩⟩
  · refine J_aload_n dX10_count_4 rfl ?_
    refine J_getI dX10_count_5 fX10_231 s158 (fun _ => rfl) ?_
    refine J_cvI (hM.2.1.2.1) ?_
    refine J_goto dX10_count_8 ?_
    exact J_retI dX10_count_24 rfl ⟨by unfold countA; first | rw [if_pos c1] | rw [if_neg c1, if_pos c1] | rw [if_neg c1, if_neg c1], ⟨hM, Fr.rf⟩⟩
theorem c_X10_fault {h : PH} {A : AS} {x : Int32} (hG : GR h.2.2) (hM : MI h A) (hW : WF A) : CtI mX10_fault h [pR (some 158), pI x] (fun v h' => v = faultA A x ∧ MP h h' A) := by
  refine Ct.of (L := [some (pR (some 158)), some (pI x)]) rfl rfl (Nat.le_of_ble_eq_true rfl) rfl ?_
  refine J_iload_n dX10_fault_0 rfl ?_
  refine J_if_ne dX10_fault_1 (fun c1 => ?_) (fun c1 => ?_)
  · refine J_iload_n dX10_fault_11 rfl ?_
    refine J_iconstN (n := 1) dX10_fault_12 ?_
    refine J_icmp_ne dX10_fault_13 (fun c2 => ?_) (fun c2 => ?_)
    · refine J_iconst (x := -1) dX10_fault_23 (by decide) ?_
      exact J_retI dX10_fault_24 rfl ⟨by unfold faultA; first | rw [if_pos c1] | rw [if_neg c1, if_pos c2] | rw [if_neg c1, if_neg c2], ⟨hM, Fr.rf⟩⟩
    · refine J_aload_n dX10_fault_16 rfl ?_
      refine J_getI dX10_fault_17 fX10_13 s158 (fun _ => rfl) ?_
      refine J_cvI (hM.2.2.2.1.2) ?_
      refine J_goto dX10_fault_20 ?_
      exact J_retI dX10_fault_24 rfl ⟨by unfold faultA; first | rw [if_pos c1] | rw [if_neg c1, if_pos c2] | rw [if_neg c1, if_neg c2], ⟨hM, Fr.rf⟩⟩
  · refine J_aload_n dX10_fault_4 rfl ?_
    refine J_getI dX10_fault_5 fX10_166 s158 (fun _ => rfl) ?_
    refine J_cvI (hM.2.2.2.1.1) ?_
    refine J_goto dX10_fault_8 ?_
    exact J_retI dX10_fault_24 rfl ⟨by unfold faultA; first | rw [if_pos c1] | rw [if_neg c1, if_pos c1] | rw [if_neg c1, if_neg c1], ⟨hM, Fr.rf⟩⟩
theorem c_X9_wants {h : PH} {p : Nat} {A : AS} {t w n : Int32} (hG : GR h.2.2) (hX : XI h p A) (hW : WF A) : CtI mX9_wants h [pR (some 0), pI t, pI w, pI n] (fun v h' => v = wantsA (aP A) t w n ∧ XP h h' p A) := by
  have bN := hW.1
  have bk := hW.wk
  have bc := hW.cs
  have bw := hW.wn
  have bt := hW.tn
  have bf := hW.fn
  refine Ct.of (L := [some (pR (some 0)), some (pI t), some (pI w), some (pI n)]) rfl rfl (Nat.le_of_ble_eq_true rfl) rfl ?_
  refine J_aload_n dX9_wants_0 rfl ?_
  refine J_iload_n dX9_wants_1 rfl ?_
  refine J_cVI (ci := 9) (c := 0) (as := [pI t]) (st := []) dX9_wants_2 lX9_130 okX9_hasThing vX9_hasThing s0 (by decide) rfl rfl rfl (Nat.le_of_ble_eq_true rfl) ⟨Nat.le_of_ble_eq_true rfl, Nat.le_of_ble_eq_true rfl⟩ CR.f (c_X9_hasThing hG hX.po hX.cu hX.tn (by omega)) (fun vq1 gq1 eq1 => ?_)
  obtain ⟨rfl, fq1⟩ := eq1
  rw [fq1]
  refine J_if_eqB dX9_wants_5 (fun c2 => ?_) (fun c2 => ?_)
  · refine J_bipush (x := (-2)) dX9_wants_25 (by decide) ?_
    exact J_retI dX9_wants_27 rfl ⟨by unfold wantsA; exact (if_neg (fun q => by simp only [inR, Int32.lt_iff_toInt_lt, Int32.le_iff_toInt_le, tn0, tn1, tn2, tn3, tn4, tn5, tn6, tn10, tn19, tn20, tn40, tn48, tn80, tn89, tn90, tn99, tn999, tn9999, zT] at q c2 <;> omega)).symm, ⟨hX, Fr.rf⟩⟩
  · obtain ⟨j1, hj1, rfl⟩ := inR_of (c2)
    refine J_aload_n dX9_wants_8 rfl ?_
    refine J_iload_n dX9_wants_9 rfl ?_
    refine J_cVI (ci := 9) (c := 0) (as := [pI w]) (st := []) dX9_wants_10 lX9_123 okX9_hasWinter vX9_hasWinter s0 (by decide) rfl rfl rfl (Nat.le_of_ble_eq_true rfl) ⟨Nat.le_of_ble_eq_true rfl, Nat.le_of_ble_eq_true rfl⟩ CR.f (c_X9_hasWinter hG hX.po hX.cu hX.wn (by omega)) (fun vq3 gq3 eq3 => ?_)
    obtain ⟨rfl, fq3⟩ := eq3
    rw [fq3]
    refine J_if_eqB dX9_wants_13 (fun c4 => ?_) (fun c4 => ?_)
    · refine J_bipush (x := (-2)) dX9_wants_25 (by decide) ?_
      exact J_retI dX9_wants_27 rfl ⟨by unfold wantsA; exact (if_neg (fun q => by simp only [inR, Int32.lt_iff_toInt_lt, Int32.le_iff_toInt_le, tn0, tn1, tn2, tn3, tn4, tn5, tn6, tn10, tn19, tn20, tn40, tn48, tn80, tn89, tn90, tn99, tn999, tn9999, zT] at q c2 c4 <;> omega)).symm, ⟨hX, Fr.rf⟩⟩
    · obtain ⟨j2, hj2, rfl⟩ := inR_of (c4)
      refine J_iload_n dX9_wants_16 rfl ?_
      refine J_if_lt dX9_wants_17 (fun c5 => ?_) (fun c5 => ?_)
      · refine J_bipush (x := (-2)) dX9_wants_25 (by decide) ?_
        exact J_retI dX9_wants_27 rfl ⟨by unfold wantsA; exact (if_neg (fun q => by simp only [inR, Int32.lt_iff_toInt_lt, Int32.le_iff_toInt_le, tn0, tn1, tn2, tn3, tn4, tn5, tn6, tn10, tn19, tn20, tn40, tn48, tn80, tn89, tn90, tn99, tn999, tn9999, zT] at q c2 c4 c5 <;> omega)).symm, ⟨hX, Fr.rf⟩⟩
      · refine J_iload_n dX9_wants_20 rfl ?_
        refine J_iconstN (n := 5) dX9_wants_21 ?_
        refine J_icmp_lt dX9_wants_22 (fun c6 => ?_) (fun c6 => ?_)
        · obtain ⟨j3, hj3, rfl⟩ := inR_of (inR_a (by decide) c5 c6)
          refine J_aload_n dX9_wants_28 rfl ?_
          refine J_getR (r := some p) dX9_wants_29 fX9_20 s0 (fun _ => rfl) (hX.cu) ?_
          refine J_getR (r := some (p + 7)) dX9_wants_32 fX9_133 hX.po.s (fun _ => rfl) (hX.po.e10 hG) ?_
          refine J_iload_n dX9_wants_35 rfl ?_
          refine J_aald4N (r := some (p + 9 + 7 * j1)) dX9_wants_36 hX.po.s7 (by decide) (by omega) (hX.po.eth hG (by omega)) ?_
          refine J_getR (r := some (p + 9 + 7 * j1 + 1)) dX9_wants_37 fX9_164 (hX.th hW hj1).s (fun _ => rfl) ((hX.th hW hj1).e10 hG) ?_
          refine J_iload_n dX9_wants_40 rfl ?_
          refine J_aald7N (r := some (p + 9 + 7 * j1 + 2 + j2)) dX9_wants_41 (hX.th hW hj1).s1 (by decide) (by omega) ((hX.th hW hj1).ew hG (by omega)) ?_
          refine J_iload_n dX9_wants_42 rfl ?_
          refine J_ialdN dX9_wants_43 ((hX.th hW hj1).sw (by omega)) (by decide) (by omega) ?_
          refine J_cvI (hX.w hj1 (by omega) hj3) ?_
          exact J_retI dX9_wants_44 rfl ⟨by unfold wantsA; rw [if_pos ⟨inR_nI hj1 (by omega), inR_nI hj2 (by omega), inR_nI hj3 (by omega)⟩, cl, cl, cl, nI_clamp (by omega), nI_clamp (by omega), nI_clamp (by omega)], ⟨hX, Fr.rf⟩⟩
        · refine J_bipush (x := (-2)) dX9_wants_25 (by decide) ?_
          exact J_retI dX9_wants_27 rfl ⟨by unfold wantsA; exact (if_neg (fun q => by simp only [inR, Int32.lt_iff_toInt_lt, Int32.le_iff_toInt_le, tn0, tn1, tn2, tn3, tn4, tn5, tn6, tn10, tn19, tn20, tn40, tn48, tn80, tn89, tn90, tn99, tn999, tn9999, zT] at q c2 c4 c5 c6 <;> omega)).symm, ⟨hX, Fr.rf⟩⟩
theorem c_X10_wants {h : PH} {A : AS} {t w n : Int32} (hG : GR h.2.2) (hM : MI h A) (hW : WF A) : CtI mX10_wants h [pR (some 158), pI t, pI w, pI n] (fun v h' => v = wantsA (aP A) t w n ∧ MP h h' A) := by
  have bN := hW.1
  have bk := hW.wk
  have bc := hW.cs
  have bw := hW.wn
  have bt := hW.tn
  have bf := hW.fn
  refine Ct.of (L := [some (pR (some 158)), some (pI t), some (pI w), some (pI n)]) rfl rfl (Nat.le_of_ble_eq_true rfl) rfl ?_
  refine J_aload_n dX10_wants_0 rfl ?_
  refine J_iload_n dX10_wants_1 rfl ?_
  refine J_cVI (ci := 10) (c := 158) (as := [pI t]) (st := []) dX10_wants_2 lX10_243 okX10_isThing vX10_isThing s158 (by decide) rfl rfl rfl (Nat.le_of_ble_eq_true rfl) ⟨Nat.le_of_ble_eq_true rfl, Nat.le_of_ble_eq_true rfl⟩ CR.f (c_X10_isThing hG (hM.nm (by decide)) (by omega)) (fun vq1 gq1 eq1 => ?_)
  obtain ⟨rfl, fq1⟩ := eq1
  rw [fq1]
  refine J_if_eqB dX10_wants_5 (fun c2 => ?_) (fun c2 => ?_)
  · refine J_bipush (x := (-2)) dX10_wants_35 (by decide) ?_
    exact J_retI dX10_wants_37 rfl ⟨by unfold wantsA; exact (if_neg (fun q => by simp only [inR, Int32.lt_iff_toInt_lt, Int32.le_iff_toInt_le, tn0, tn1, tn2, tn3, tn4, tn5, tn6, tn10, tn19, tn20, tn40, tn48, tn80, tn89, tn90, tn99, tn999, tn9999, zT] at q c2 <;> omega)).symm, ⟨hM, Fr.rf⟩⟩
  · obtain ⟨j1, hj1, rfl⟩ := inR_of (c2)
    refine J_aload_n dX10_wants_8 rfl ?_
    refine J_iload_n dX10_wants_9 rfl ?_
    refine J_cVI (ci := 10) (c := 158) (as := [pI w]) (st := []) dX10_wants_10 lX10_237 okX10_isWinter vX10_isWinter s158 (by decide) rfl rfl rfl (Nat.le_of_ble_eq_true rfl) ⟨Nat.le_of_ble_eq_true rfl, Nat.le_of_ble_eq_true rfl⟩ CR.f (c_X10_isWinter hG (hM.nm (by decide)) (by omega)) (fun vq3 gq3 eq3 => ?_)
    obtain ⟨rfl, fq3⟩ := eq3
    rw [fq3]
    refine J_if_eqB dX10_wants_13 (fun c4 => ?_) (fun c4 => ?_)
    · refine J_bipush (x := (-2)) dX10_wants_35 (by decide) ?_
      exact J_retI dX10_wants_37 rfl ⟨by unfold wantsA; exact (if_neg (fun q => by simp only [inR, Int32.lt_iff_toInt_lt, Int32.le_iff_toInt_le, tn0, tn1, tn2, tn3, tn4, tn5, tn6, tn10, tn19, tn20, tn40, tn48, tn80, tn89, tn90, tn99, tn999, tn9999, zT] at q c2 c4 <;> omega)).symm, ⟨hM, Fr.rf⟩⟩
    · obtain ⟨j2, hj2, rfl⟩ := inR_of (c4)
      refine J_iload_n dX10_wants_16 rfl ?_
      refine J_iconstN (n := 0) dX10_wants_17 ?_
      refine J_iconstN (n := 4) dX10_wants_18 ?_
      refine J_cSI (as := [pI n, pI (nI 0), pI (nI 4)]) (st := []) dX10_wants_19 lX10_172 okX10_in sX10_in rfl rfl (Nat.le_of_ble_eq_true rfl) ⟨Nat.le_of_ble_eq_true rfl, Nat.le_of_ble_eq_true rfl⟩ CR.f (c_X10_in) (fun vq5 gq5 eq5 => ?_)
      obtain ⟨rfl, fq5⟩ := eq5
      rw [fq5]
      refine J_if_eqB dX10_wants_22 (fun c6 => ?_) (fun c6 => ?_)
      · refine J_bipush (x := (-2)) dX10_wants_35 (by decide) ?_
        exact J_retI dX10_wants_37 rfl ⟨by unfold wantsA; exact (if_neg (fun q => by simp only [inR, Int32.lt_iff_toInt_lt, Int32.le_iff_toInt_le, tn0, tn1, tn2, tn3, tn4, tn5, tn6, tn10, tn19, tn20, tn40, tn48, tn80, tn89, tn90, tn99, tn999, tn9999, zT] at q c2 c4 c6 <;> omega)).symm, ⟨hM, Fr.rf⟩⟩
      · obtain ⟨j3, hj3, rfl⟩ := inR_of (inR_e (n := 4) (by decide) c6)
        refine J_aload_n dX10_wants_25 rfl ?_
        refine J_iload_n dX10_wants_26 rfl ?_
        refine J_iload_n dX10_wants_27 rfl ?_
        refine J_iload_n dX10_wants_28 rfl ?_
        refine J_cVI (ci := 10) (c := 158) (as := [pI (nI j1), pI (nI j2), pI (nI j3)]) (st := []) dX10_wants_29 lX10_249 okX10_chance vX10_chance s158 (by decide) rfl rfl rfl (Nat.le_of_ble_eq_true rfl) ⟨Nat.le_of_ble_eq_true rfl, Nat.le_of_ble_eq_true rfl⟩ CR.f (c_X10_chance hG (by omega) (by omega) (by omega) (hM.w hj1 (by omega) hj3)) (fun vq7 gq7 eq7 => ?_)
        obtain ⟨rfl, fq7⟩ := eq7
        rw [fq7]
        refine J_goto dX10_wants_32 ?_
        exact J_retI dX10_wants_37 rfl ⟨by unfold wantsA; rw [if_pos ⟨inR_nI hj1 (by omega), inR_nI hj2 (by omega), inR_nI hj3 (by omega)⟩, cl, cl, cl, nI_clamp (by omega), nI_clamp (by omega), nI_clamp (by omega)], ⟨hM, Fr.rf⟩⟩
theorem c_X9_signs {h : PH} {p : Nat} {A : AS} {w s : Int32} (hG : GR h.2.2) (hX : XI h p A) (hW : WF A) : CtI mX9_signs h [pR (some 0), pI w, pI s] (fun v h' => v = signsA (aP A) w s ∧ XP h h' p A) := by
  have bN := hW.1
  have bk := hW.wk
  have bc := hW.cs
  have bw := hW.wn
  have bt := hW.tn
  have bf := hW.fn
  refine Ct.of (L := [some (pR (some 0)), some (pI w), some (pI s)]) rfl rfl (Nat.le_of_ble_eq_true rfl) rfl ?_
  refine J_aload_n dX9_signs_0 rfl ?_
  refine J_iload_n dX9_signs_1 rfl ?_
  refine J_cVI (ci := 9) (c := 0) (as := [pI w]) (st := []) dX9_signs_2 lX9_123 okX9_hasWinter vX9_hasWinter s0 (by decide) rfl rfl rfl (Nat.le_of_ble_eq_true rfl) ⟨Nat.le_of_ble_eq_true rfl, Nat.le_of_ble_eq_true rfl⟩ CR.f (c_X9_hasWinter hG hX.po hX.cu hX.wn (by omega)) (fun vq1 gq1 eq1 => ?_)
  obtain ⟨rfl, fq1⟩ := eq1
  rw [fq1]
  refine J_if_eqB dX9_signs_5 (fun c2 => ?_) (fun c2 => ?_)
  · refine J_bipush (x := (-2)) dX9_signs_17 (by decide) ?_
    exact J_retI dX9_signs_19 rfl ⟨by unfold signsA; exact (if_neg (fun q => by simp only [inR, Int32.lt_iff_toInt_lt, Int32.le_iff_toInt_le, tn0, tn1, tn2, tn3, tn4, tn5, tn6, tn10, tn19, tn20, tn40, tn48, tn80, tn89, tn90, tn99, tn999, tn9999, zT] at q c2 <;> omega)).symm, ⟨hX, Fr.rf⟩⟩
  · obtain ⟨j1, hj1, rfl⟩ := inR_of (c2)
    refine J_iload_n dX9_signs_8 rfl ?_
    refine J_if_lt dX9_signs_9 (fun c3 => ?_) (fun c3 => ?_)
    · refine J_bipush (x := (-2)) dX9_signs_17 (by decide) ?_
      exact J_retI dX9_signs_19 rfl ⟨by unfold signsA; exact (if_neg (fun q => by simp only [inR, Int32.lt_iff_toInt_lt, Int32.le_iff_toInt_le, tn0, tn1, tn2, tn3, tn4, tn5, tn6, tn10, tn19, tn20, tn40, tn48, tn80, tn89, tn90, tn99, tn999, tn9999, zT] at q c2 c3 <;> omega)).symm, ⟨hX, Fr.rf⟩⟩
    · refine J_iload_n dX9_signs_12 rfl ?_
      refine J_iconstN (n := 3) dX9_signs_13 ?_
      refine J_icmp_lt dX9_signs_14 (fun c4 => ?_) (fun c4 => ?_)
      · obtain ⟨j2, hj2, rfl⟩ := inR_of (inR_a (by decide) c3 c4)
        refine J_aload_n dX9_signs_20 rfl ?_
        refine J_getR (r := some p) dX9_signs_21 fX9_20 s0 (fun _ => rfl) (hX.cu) ?_
        refine J_getR (r := some (p + 2)) dX9_signs_24 fX9_168 hX.po.s (fun _ => rfl) (hX.po.e9 hG) ?_
        refine J_iload_n dX9_signs_27 rfl ?_
        refine J_aald7N (r := some (p + 3 + j1)) dX9_signs_28 hX.po.s2 (by decide) (by omega) (hX.po.esg hG (by omega)) ?_
        refine J_iload_n dX9_signs_29 rfl ?_
        refine J_ialdN dX9_signs_30 (hX.po.sg (by omega)) (by decide) (by omega) ?_
        refine J_cvI (hX.sg hj1 hj2) ?_
        exact J_retI dX9_signs_31 rfl ⟨by unfold signsA; rw [if_pos ⟨inR_nI hj1 (by omega), inR_nI hj2 (by omega)⟩, cl, cl, nI_clamp (by omega), nI_clamp (by omega)], ⟨hX, Fr.rf⟩⟩
      · refine J_bipush (x := (-2)) dX9_signs_17 (by decide) ?_
        exact J_retI dX9_signs_19 rfl ⟨by unfold signsA; exact (if_neg (fun q => by simp only [inR, Int32.lt_iff_toInt_lt, Int32.le_iff_toInt_le, tn0, tn1, tn2, tn3, tn4, tn5, tn6, tn10, tn19, tn20, tn40, tn48, tn80, tn89, tn90, tn99, tn999, tn9999, zT] at q c2 c3 c4 <;> omega)).symm, ⟨hX, Fr.rf⟩⟩
theorem c_X10_signs {h : PH} {A : AS} {w s : Int32} (hG : GR h.2.2) (hM : MI h A) (hW : WF A) : CtI mX10_signs h [pR (some 158), pI w, pI s] (fun v h' => v = signsA (aP A) w s ∧ MP h h' A) := by
  have bN := hW.1
  have bk := hW.wk
  have bc := hW.cs
  have bw := hW.wn
  have bt := hW.tn
  have bf := hW.fn
  refine Ct.of (L := [some (pR (some 158)), some (pI w), some (pI s)]) rfl rfl (Nat.le_of_ble_eq_true rfl) rfl ?_
  refine J_aload_n dX10_signs_0 rfl ?_
  refine J_iload_n dX10_signs_1 rfl ?_
  refine J_cVI (ci := 10) (c := 158) (as := [pI w]) (st := []) dX10_signs_2 lX10_237 okX10_isWinter vX10_isWinter s158 (by decide) rfl rfl rfl (Nat.le_of_ble_eq_true rfl) ⟨Nat.le_of_ble_eq_true rfl, Nat.le_of_ble_eq_true rfl⟩ CR.f (c_X10_isWinter hG (hM.nm (by decide)) (by omega)) (fun vq1 gq1 eq1 => ?_)
  obtain ⟨rfl, fq1⟩ := eq1
  rw [fq1]
  refine J_if_eqB dX10_signs_5 (fun c2 => ?_) (fun c2 => ?_)
  · refine J_bipush (x := (-2)) dX10_signs_32 (by decide) ?_
    exact J_retI dX10_signs_34 rfl ⟨by unfold signsA; exact (if_neg (fun q => by simp only [inR, Int32.lt_iff_toInt_lt, Int32.le_iff_toInt_le, tn0, tn1, tn2, tn3, tn4, tn5, tn6, tn10, tn19, tn20, tn40, tn48, tn80, tn89, tn90, tn99, tn999, tn9999, zT] at q c2 <;> omega)).symm, ⟨hM, Fr.rf⟩⟩
  · obtain ⟨j1, hj1, rfl⟩ := inR_of (c2)
    refine J_iload_n dX10_signs_8 rfl ?_
    refine J_iconstN (n := 0) dX10_signs_9 ?_
    refine J_iconstN (n := 2) dX10_signs_10 ?_
    refine J_cSI (as := [pI s, pI (nI 0), pI (nI 2)]) (st := []) dX10_signs_11 lX10_172 okX10_in sX10_in rfl rfl (Nat.le_of_ble_eq_true rfl) ⟨Nat.le_of_ble_eq_true rfl, Nat.le_of_ble_eq_true rfl⟩ CR.f (c_X10_in) (fun vq3 gq3 eq3 => ?_)
    obtain ⟨rfl, fq3⟩ := eq3
    rw [fq3]
    refine J_if_eqB dX10_signs_14 (fun c4 => ?_) (fun c4 => ?_)
    · refine J_bipush (x := (-2)) dX10_signs_32 (by decide) ?_
      exact J_retI dX10_signs_34 rfl ⟨by unfold signsA; exact (if_neg (fun q => by simp only [inR, Int32.lt_iff_toInt_lt, Int32.le_iff_toInt_le, tn0, tn1, tn2, tn3, tn4, tn5, tn6, tn10, tn19, tn20, tn40, tn48, tn80, tn89, tn90, tn99, tn999, tn9999, zT] at q c2 c4 <;> omega)).symm, ⟨hM, Fr.rf⟩⟩
    · obtain ⟨j2, hj2, rfl⟩ := inR_of (inR_e (n := 2) (by decide) c4)
      refine J_aload_n dX10_signs_17 rfl ?_
      refine J_getR (r := some 164) dX10_signs_18 fX10_31 s158 (fun _ => rfl) (g158_16 hG) ?_
      refine J_iconstN (n := 4) dX10_signs_21 ?_
      refine J_iload_n dX10_signs_22 rfl ?_
      refine J_imulN dX10_signs_23 ?_
      refine J_iconstN (n := 1) dX10_signs_24 ?_
      refine J_iaddN dX10_signs_25 ?_
      refine J_iload_n dX10_signs_26 rfl ?_
      refine J_iaddN dX10_signs_27 ?_
      refine J_ialdN dX10_signs_28 s164 (by decide) (by omega) ?_
      refine J_cvI ((show h.1 164 (4 * j1 + 1 + j2) = nI (aP A 1 j1 (j2 + 1)) from (by have q := hM.sg (k := j2 + 1) hj1 (by omega); rw [show 4 * j1 + 1 + j2 = 4 * j1 + (j2 + 1) by omega]; exact q))) ?_
      refine J_goto dX10_signs_29 ?_
      exact J_retI dX10_signs_34 rfl ⟨by unfold signsA; rw [if_pos ⟨inR_nI hj1 (by omega), inR_nI hj2 (by omega)⟩, cl, cl, nI_clamp (by omega), nI_clamp (by omega)], ⟨hM, Fr.rf⟩⟩
theorem c_X7_setRule {h : PH} {th a b : Nat} (hth : IsTh th) : CtV mX7_setRule h [pR (some th), pI (nI a), pI (nI b)] (fun h' => h' = sI (sI h th 8 (nI a)) th 9 (nI b)) := by
  refine Ct.of (L := [some (pR (some th)), some (pI (nI a)), some (pI (nI b))]) rfl rfl (Nat.le_of_ble_eq_true rfl) rfl ?_
  refine J_aload_n dX7_setRule_0 rfl ?_
  refine J_iload_n dX7_setRule_1 rfl ?_
  refine J_putI dX7_setRule_2 fX7_20 hth.s rfl (vp_nar_int _) rfl (fun _ _ => rfl) ?_
  refine J_aload_n dX7_setRule_5 rfl ?_
  refine J_iload_n dX7_setRule_6 rfl ?_
  refine J_putI dX7_setRule_7 fX7_24 hth.s rfl (vp_nar_int _) rfl (fun _ _ => rfl) ?_
  exact J_retV dX7_setRule_10 rfl rfl
theorem c_X9_rule {h : PH} {p : Nat} {A : AS} {t k l : Int32} (hG : GR h.2.2) (hX : XI h p A) (hW : WF A) : CtI mX9_rule h [pR (some 0), pI t, pI k, pI l] (fun v h' => v = (if ruleOk (aP A) t k l then nI 1 else -2) ∧ XP h h' p (ruleS A t k l)) := by
  have bN := hW.1
  have bk := hW.wk
  have bc := hW.cs
  have bw := hW.wn
  have bt := hW.tn
  have bf := hW.fn
  refine Ct.of (L := [some (pR (some 0)), some (pI t), some (pI k), some (pI l)]) rfl rfl (Nat.le_of_ble_eq_true rfl) rfl ?_
  refine J_aload_n dX9_rule_0 rfl ?_
  refine J_iload_n dX9_rule_1 rfl ?_
  refine J_cVI (ci := 9) (c := 0) (as := [pI t]) (st := []) dX9_rule_2 lX9_130 okX9_hasThing vX9_hasThing s0 (by decide) rfl rfl rfl (Nat.le_of_ble_eq_true rfl) ⟨Nat.le_of_ble_eq_true rfl, Nat.le_of_ble_eq_true rfl⟩ CR.f (c_X9_hasThing hG hX.po hX.cu hX.tn (by omega)) (fun vq1 gq1 eq1 => ?_)
  obtain ⟨rfl, fq1⟩ := eq1
  rw [fq1]
  refine J_if_eqB dX9_rule_5 (fun c2 => ?_) (fun c2 => ?_)
  · refine J_bipush (x := (-2)) dX9_rule_24 (by decide) ?_
    exact J_retI dX9_rule_26 rfl ⟨(if_neg (fun q => by simp only [ruleOk, inR, Int32.lt_iff_toInt_lt, Int32.le_iff_toInt_le, zT, tn0, tn1, tn2, tn3, tn4, tn5, tn6, tn10, tn19, tn20, tn40, tn48, tn80, tn89, tn90, tn99, tn999, tn9999] at q c2 <;> omega)).symm, by unfold ruleS; rw [if_neg (fun q => by simp only [ruleOk, inR, Int32.lt_iff_toInt_lt, Int32.le_iff_toInt_le, zT, tn0, tn1, tn2, tn3, tn4, tn5, tn6, tn10, tn19, tn20, tn40, tn48, tn80, tn89, tn90, tn99, tn999, tn9999] at q c2 <;> omega)]; exact ⟨hX, Fr.rf⟩⟩
  · obtain ⟨j1, hj1, rfl⟩ := inR_of (c2)
    refine J_iload_n dX9_rule_8 rfl ?_
    refine J_if_lt dX9_rule_9 (fun c3 => ?_) (fun c3 => ?_)
    · refine J_bipush (x := (-2)) dX9_rule_24 (by decide) ?_
      exact J_retI dX9_rule_26 rfl ⟨(if_neg (fun q => by simp only [ruleOk, inR, Int32.lt_iff_toInt_lt, Int32.le_iff_toInt_le, zT, tn0, tn1, tn2, tn3, tn4, tn5, tn6, tn10, tn19, tn20, tn40, tn48, tn80, tn89, tn90, tn99, tn999, tn9999] at q c2 c3 <;> omega)).symm, by unfold ruleS; rw [if_neg (fun q => by simp only [ruleOk, inR, Int32.lt_iff_toInt_lt, Int32.le_iff_toInt_le, zT, tn0, tn1, tn2, tn3, tn4, tn5, tn6, tn10, tn19, tn20, tn40, tn48, tn80, tn89, tn90, tn99, tn999, tn9999] at q c2 c3 <;> omega)]; exact ⟨hX, Fr.rf⟩⟩
    · refine J_iload_n dX9_rule_12 rfl ?_
      refine J_iconstN (n := 2) dX9_rule_13 ?_
      refine J_icmp_gt dX9_rule_14 (fun c4 => ?_) (fun c4 => ?_)
      · refine J_bipush (x := (-2)) dX9_rule_24 (by decide) ?_
        exact J_retI dX9_rule_26 rfl ⟨(if_neg (fun q => by simp only [ruleOk, inR, Int32.lt_iff_toInt_lt, Int32.le_iff_toInt_le, zT, tn0, tn1, tn2, tn3, tn4, tn5, tn6, tn10, tn19, tn20, tn40, tn48, tn80, tn89, tn90, tn99, tn999, tn9999] at q c2 c3 c4 <;> omega)).symm, by unfold ruleS; rw [if_neg (fun q => by simp only [ruleOk, inR, Int32.lt_iff_toInt_lt, Int32.le_iff_toInt_le, zT, tn0, tn1, tn2, tn3, tn4, tn5, tn6, tn10, tn19, tn20, tn40, tn48, tn80, tn89, tn90, tn99, tn999, tn9999] at q c2 c3 c4 <;> omega)]; exact ⟨hX, Fr.rf⟩⟩
      · obtain ⟨j2, hj2, rfl⟩ := inR_of (inR_d (n := 2) (by decide) c3 c4)
        refine J_iload_n dX9_rule_17 rfl ?_
        refine J_cSI (as := [pI l]) (st := []) dX9_rule_18 lX9_171 okX9_isOrder sX9_isOrder rfl rfl (Nat.le_of_ble_eq_true rfl) ⟨Nat.le_of_ble_eq_true rfl, Nat.le_of_ble_eq_true rfl⟩ CR.f (c_X9_isOrder) (fun vq5 gq5 eq5 => ?_)
        obtain ⟨rfl, fq5⟩ := eq5
        rw [fq5]
        refine J_if_neB dX9_rule_21 (fun c6 => ?_) (fun c6 => ?_)
        · obtain ⟨j3, hj3, rfl⟩ := inR_of (c6)
          refine J_aload_n dX9_rule_27 rfl ?_
          refine J_getR (r := some p) dX9_rule_28 fX9_20 s0 (fun _ => rfl) (hX.cu) ?_
          refine J_getR (r := some (p + 7)) dX9_rule_31 fX9_133 hX.po.s (fun _ => rfl) (hX.po.e10 hG) ?_
          refine J_iload_n dX9_rule_34 rfl ?_
          refine J_aald4N (r := some (p + 9 + 7 * j1)) dX9_rule_35 hX.po.s7 (by decide) (by omega) (hX.po.eth hG (by omega)) ?_
          refine J_iload_n dX9_rule_36 rfl ?_
          refine J_iload_n dX9_rule_37 rfl ?_
          refine J_cVV (ci := 7) (c := p + 9 + 7 * j1) (as := [pI (nI j2), pI (nI j3)]) (st := []) dX9_rule_38 lX9_174 okX7_setRule vX7_setRule (hX.th hW hj1).s (by decide) rfl rfl rfl (Nat.le_of_ble_eq_true rfl) ⟨Nat.le_of_ble_eq_true rfl, Nat.le_of_ble_eq_true rfl⟩ CR.f (c_X7_setRule (hX.th hW hj1)) (fun g1 e1 => ?_)
          subst e1
          refine J_iconstN (n := 1) dX9_rule_41 ?_
          have hr : ruleOk (aP A) (nI j1) (nI j2) (nI j3) := ⟨inR_nI hj1 (by omega), inR_nI hj2 (by omega), inR_nI hj3 (by omega)⟩
          exact J_retI dX9_rule_42 rfl ⟨(if_pos hr).symm, by rw [ruleS, if_pos hr, cl, cl, cl, nI_clamp (by omega), nI_clamp (by omega), nI_clamp (by omega)]; exact ⟨hX.rule hW hj1, Fr.tr (Fr.sI (by omega) (by have := hX.po.b; omega)) (Fr.sI (by omega) (by have := hX.po.b; omega))⟩⟩
        · refine J_bipush (x := (-2)) dX9_rule_24 (by decide) ?_
          exact J_retI dX9_rule_26 rfl ⟨(if_neg (fun q => by simp only [ruleOk, inR, Int32.lt_iff_toInt_lt, Int32.le_iff_toInt_le, zT, tn0, tn1, tn2, tn3, tn4, tn5, tn6, tn10, tn19, tn20, tn40, tn48, tn80, tn89, tn90, tn99, tn999, tn9999] at q c2 c3 c4 c6 <;> omega)).symm, by unfold ruleS; rw [if_neg (fun q => by simp only [ruleOk, inR, Int32.lt_iff_toInt_lt, Int32.le_iff_toInt_le, zT, tn0, tn1, tn2, tn3, tn4, tn5, tn6, tn10, tn19, tn20, tn40, tn48, tn80, tn89, tn90, tn99, tn999, tn9999] at q c2 c3 c4 c6 <;> omega)]; exact ⟨hX, Fr.rf⟩⟩
theorem c_X10_rule {h : PH} {A : AS} {t k l : Int32} (hG : GR h.2.2) (hM : MI h A) (hW : WF A) : CtI mX10_rule h [pR (some 158), pI t, pI k, pI l] (fun v h' => v = (if ruleOk (aP A) t k l then nI 1 else -2) ∧ MP h h' (ruleS A t k l)) := by
  have bN := hW.1
  have bk := hW.wk
  have bc := hW.cs
  have bw := hW.wn
  have bt := hW.tn
  have bf := hW.fn
  refine Ct.of (L := [some (pR (some 158)), some (pI t), some (pI k), some (pI l)]) rfl rfl (Nat.le_of_ble_eq_true rfl) rfl ?_
  refine J_aload_n dX10_rule_0 rfl ?_
  refine J_iload_n dX10_rule_1 rfl ?_
  refine J_cVI (ci := 10) (c := 158) (as := [pI t]) (st := []) dX10_rule_2 lX10_243 okX10_isThing vX10_isThing s158 (by decide) rfl rfl rfl (Nat.le_of_ble_eq_true rfl) ⟨Nat.le_of_ble_eq_true rfl, Nat.le_of_ble_eq_true rfl⟩ CR.f (c_X10_isThing hG (hM.nm (by decide)) (by omega)) (fun vq1 gq1 eq1 => ?_)
  obtain ⟨rfl, fq1⟩ := eq1
  rw [fq1]
  refine J_if_eqB dX10_rule_5 (fun c2 => ?_) (fun c2 => ?_)
  · refine J_bipush (x := (-2)) dX10_rule_27 (by decide) ?_
    exact J_retI dX10_rule_29 rfl ⟨(if_neg (fun q => by simp only [ruleOk, inR, Int32.lt_iff_toInt_lt, Int32.le_iff_toInt_le, zT, tn0, tn1, tn2, tn3, tn4, tn5, tn6, tn10, tn19, tn20, tn40, tn48, tn80, tn89, tn90, tn99, tn999, tn9999] at q c2 <;> omega)).symm, by unfold ruleS; rw [if_neg (fun q => by simp only [ruleOk, inR, Int32.lt_iff_toInt_lt, Int32.le_iff_toInt_le, zT, tn0, tn1, tn2, tn3, tn4, tn5, tn6, tn10, tn19, tn20, tn40, tn48, tn80, tn89, tn90, tn99, tn999, tn9999] at q c2 <;> omega)]; exact ⟨hM, Fr.rf⟩⟩
  · obtain ⟨j1, hj1, rfl⟩ := inR_of (c2)
    refine J_iload_n dX10_rule_8 rfl ?_
    refine J_iconstN (n := 0) dX10_rule_9 ?_
    refine J_iconstN (n := 2) dX10_rule_10 ?_
    refine J_cSI (as := [pI k, pI (nI 0), pI (nI 2)]) (st := []) dX10_rule_11 lX10_172 okX10_in sX10_in rfl rfl (Nat.le_of_ble_eq_true rfl) ⟨Nat.le_of_ble_eq_true rfl, Nat.le_of_ble_eq_true rfl⟩ CR.f (c_X10_in) (fun vq3 gq3 eq3 => ?_)
    obtain ⟨rfl, fq3⟩ := eq3
    rw [fq3]
    refine J_if_eqB dX10_rule_14 (fun c4 => ?_) (fun c4 => ?_)
    · refine J_bipush (x := (-2)) dX10_rule_27 (by decide) ?_
      exact J_retI dX10_rule_29 rfl ⟨(if_neg (fun q => by simp only [ruleOk, inR, Int32.lt_iff_toInt_lt, Int32.le_iff_toInt_le, zT, tn0, tn1, tn2, tn3, tn4, tn5, tn6, tn10, tn19, tn20, tn40, tn48, tn80, tn89, tn90, tn99, tn999, tn9999] at q c2 c4 <;> omega)).symm, by unfold ruleS; rw [if_neg (fun q => by simp only [ruleOk, inR, Int32.lt_iff_toInt_lt, Int32.le_iff_toInt_le, zT, tn0, tn1, tn2, tn3, tn4, tn5, tn6, tn10, tn19, tn20, tn40, tn48, tn80, tn89, tn90, tn99, tn999, tn9999] at q c2 c4 <;> omega)]; exact ⟨hM, Fr.rf⟩⟩
    · obtain ⟨j2, hj2, rfl⟩ := inR_of (inR_e (n := 2) (by decide) c4)
      refine J_iload_n dX10_rule_17 rfl ?_
      refine J_iconstN (n := 0) dX10_rule_18 ?_
      refine J_bipush (x := nI 40) dX10_rule_19 (by decide) ?_
      refine J_cSI (as := [pI l, pI (nI 0), pI (nI 40)]) (st := []) dX10_rule_21 lX10_172 okX10_in sX10_in rfl rfl (Nat.le_of_ble_eq_true rfl) ⟨Nat.le_of_ble_eq_true rfl, Nat.le_of_ble_eq_true rfl⟩ CR.f (c_X10_in) (fun vq5 gq5 eq5 => ?_)
      obtain ⟨rfl, fq5⟩ := eq5
      rw [fq5]
      refine J_if_neB dX10_rule_24 (fun c6 => ?_) (fun c6 => ?_)
      · obtain ⟨j3, hj3, rfl⟩ := inR_of (inR_e (n := 40) (by decide) c6)
        refine J_aload_n dX10_rule_30 rfl ?_
        refine J_getR (r := some 171) dX10_rule_31 fX10_53 s158 (fun _ => rfl) (g158_25 hG) ?_
        refine J_iload_n dX10_rule_34 rfl ?_
        refine J_iload_n dX10_rule_35 rfl ?_
        refine J_iastN dX10_rule_36 s171 (by decide) (by omega) ?_
        refine J_aload_n dX10_rule_37 rfl ?_
        refine J_getR (r := some 172) dX10_rule_38 fX10_56 s158 (fun _ => rfl) ((xRI).trans (g158_26 hG)) ?_
        refine J_iload_n dX10_rule_41 rfl ?_
        refine J_iload_n dX10_rule_42 rfl ?_
        refine J_iastN dX10_rule_43 s172 (by decide) (by omega) ?_
        refine J_iconstN (n := 1) dX10_rule_44 ?_
        have hr : ruleOk (aP A) (nI j1) (nI j2) (nI j3) := ⟨inR_nI hj1 (by omega), inR_nI hj2 (by omega), inR_nI hj3 (by omega)⟩
        exact J_retI dX10_rule_45 rfl ⟨(if_pos hr).symm, by rw [ruleS, if_pos hr, cl, cl, cl, nI_clamp (by omega), nI_clamp (by omega), nI_clamp (by omega)]; exact ⟨hM.rule hW hj1, Fr.tr (Fr.sI (by omega) (by omega)) (Fr.sI (by omega) (by omega))⟩⟩
      · refine J_bipush (x := (-2)) dX10_rule_27 (by decide) ?_
        exact J_retI dX10_rule_29 rfl ⟨(if_neg (fun q => by simp only [ruleOk, inR, Int32.lt_iff_toInt_lt, Int32.le_iff_toInt_le, zT, tn0, tn1, tn2, tn3, tn4, tn5, tn6, tn10, tn19, tn20, tn40, tn48, tn80, tn89, tn90, tn99, tn999, tn9999] at q c2 c4 c6 <;> omega)).symm, by unfold ruleS; rw [if_neg (fun q => by simp only [ruleOk, inR, Int32.lt_iff_toInt_lt, Int32.le_iff_toInt_le, zT, tn0, tn1, tn2, tn3, tn4, tn5, tn6, tn10, tn19, tn20, tn40, tn48, tn80, tn89, tn90, tn99, tn999, tn9999] at q c2 c4 c6 <;> omega)]; exact ⟨hM, Fr.rf⟩⟩
