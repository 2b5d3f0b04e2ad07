/-! ===== names, faults, weights of the model ===== -/
theorem c_X10_fails {h : PH} {k s : Nat} (h5 : h.1 158 5 = nI s) : CtI mX10_fails h [pR (some 158), pI (nI k)] (fun v h' => v = nI 0 ∧ h' = sI (sI h 158 8 (nI k)) 158 9 (nI s)) := by
  refine Ct.of (L := [some (pR (some 158)), some (pI (nI k))]) rfl rfl (Nat.le_of_ble_eq_true rfl) rfl ?_
  refine J_aload_n dX10_fails_0 rfl ?_
  refine J_iload_n dX10_fails_1 rfl ?_
  refine J_putI dX10_fails_2 fX10_166 s158 rfl (vp_nar_int _) rfl (fun _ _ => rfl) ?_
  refine J_aload_n dX10_fails_5 rfl ?_
  refine J_aload_n dX10_fails_6 rfl ?_
  refine J_getI dX10_fails_7 fX10_135 s158 (fun _ => rfl) ?_
  refine J_cvI ((rI_k (by decide)).trans (h5)) ?_
  refine J_putI dX10_fails_10 fX10_13 s158 rfl (vp_nar_int _) rfl (fun _ _ => rfl) ?_
  refine J_iconstN (n := 0) dX10_fails_13 ?_
  exact J_retZ dX10_fails_14 rfl rfl ⟨rfl, rfl⟩
theorem c_X10_winterNamed {h : PH} {V c : Nat} {g : Nat → Nat} (hG : GR h.2.2) (hc : h.1 160 7 = nI c) (c6 : c ≤ 4) (hg : ∀ i, i < c → h.2.1 161 i = lN (g i) ∧ g i < 2 ^ 40) (hw : h.2.1 158 10 = lN V) (hV : V < 2 ^ 40) : CtI mX10_winterNamed h [pR (some 158)] (fun v h' => v = hlp (fdN g V c) ∧ h' = h) := by
  refine Ct.of (L := [some (pR (some 158)), none]) rfl rfl (Nat.le_of_ble_eq_true rfl) rfl ?_
  refine J_iconstN (n := 0) dX10_winterNamed_0 ?_
  refine J_istore_n (L' := [some (pR (some 158)), some (pI (nI 0))]) dX10_winterNamed_1 (by decide) rfl ?_
  refine J_L (L' := [some (pR (some 158)), some (pI (nI 0))]) rfl ?_
  refine J_forI (α := Unit) (L := fun i1 aa1 => [some (pR (some 158)), some (pI (nI i1))]) (fun i1 aa1 h1 => h = h1 ∧ fdN g V i1 = 0) (e := c) (fun aa1 h1 hI1 => ?_) (fun i1 aa1 h1 hi1 hI1 ih1 => ?_) 0 (()) _ (by omega) (⟨rfl, rfl⟩)
  · show J _ _ _ _ _ [some (pR (some 158)), some (pI (nI c))] _ _ h1
    obtain ⟨rfl, hJ⟩ := hI1
    refine J_iload_n dX10_winterNamed_2 rfl ?_
    refine J_aload_n dX10_winterNamed_3 rfl ?_
    refine J_getR (r := some 160) dX10_winterNamed_4 fX10_17 s158 (fun _ => rfl) (g158_12 hG) ?_
    refine J_bipush (x := nI 7) dX10_winterNamed_7 (by decide) ?_
    refine J_ialdN dX10_winterNamed_9 s160 (by decide) (by omega) ?_
    refine J_cvI (hc) ?_
    refine J_icmp_geN dX10_winterNamed_10 (by omega) (by omega) (fun c1 => ?_) (fun c1 => ?_)
    · refine J_iconst (x := -1) dX10_winterNamed_35 (by decide) ?_
      exact J_retI dX10_winterNamed_36 rfl ⟨by rw [hJ]; rfl, rfl⟩
    · exact (show False by omega).elim
  · show J _ _ _ _ _ [some (pR (some 158)), some (pI (nI i1))] _ _ h1
    obtain ⟨rfl, hJ⟩ := hI1
    have hgi := hg i1 hi1
    refine J_iload_n dX10_winterNamed_2 rfl ?_
    refine J_aload_n dX10_winterNamed_3 rfl ?_
    refine J_getR (r := some 160) dX10_winterNamed_4 fX10_17 s158 (fun _ => rfl) (g158_12 hG) ?_
    refine J_bipush (x := nI 7) dX10_winterNamed_7 (by decide) ?_
    refine J_ialdN dX10_winterNamed_9 s160 (by decide) (by omega) ?_
    refine J_cvI (hc) ?_
    refine J_icmp_geN dX10_winterNamed_10 (by omega) (by omega) (fun c2 => ?_) (fun c2 => ?_)
    · exact (show False by omega).elim
    · refine J_aload_n dX10_winterNamed_13 rfl ?_
      refine J_getR (r := some 161) dX10_winterNamed_14 fX10_21 s158 (fun _ => rfl) (g158_13 hG) ?_
      refine J_iload_n dX10_winterNamed_17 rfl ?_
      refine J_laldN dX10_winterNamed_18 s161 (by decide) (by omega) ?_
      refine J_cvL (hgi.1) ?_
      refine J_aload_n dX10_winterNamed_19 rfl ?_
      refine J_getL dX10_winterNamed_20 fX10_148 s158 (fun _ => rfl) ?_
      refine J_cvL (hw) ?_
      refine J_lcmp dX10_winterNamed_23 ?_
      refine J_lif_ne dX10_winterNamed_24 (fun dc => ?_) (fun dc => ?_)
      · refine J_iincN (n := 1) (L' := [some (pR (some 158)), some (pI (nI (i1 + 1)))]) dX10_winterNamed_29 rfl (by decide) rfl ?_
        refine J_goto dX10_winterNamed_32 ?_
        exact ih1 () _ ⟨rfl, (fdN_s hJ).trans (if_neg (fun y => dc ((pk_lEQ (by omega) (by omega)).mpr y)))⟩
      · refine J_iload_n dX10_winterNamed_27 rfl ?_
        exact J_retI dX10_winterNamed_28 rfl ⟨by rw [fdN_h (by omega) hJ ((pk_lEQ (by omega) (by omega)).mp dc)]; rfl, rfl⟩
theorem c_X10_thingNamed {h : PH} {V c : Nat} {g : Nat → Nat} (hG : GR h.2.2) (hc : h.1 160 8 = nI c) (c6 : c ≤ 4) (hg : ∀ i, i < c → h.2.1 162 i = lN (g i) ∧ g i < 2 ^ 40) (hw : h.2.1 158 10 = lN V) (hV : V < 2 ^ 40) : CtI mX10_thingNamed h [pR (some 158)] (fun v h' => v = hlp (fdN g V c) ∧ h' = h) := by
  refine Ct.of (L := [some (pR (some 158)), none]) rfl rfl (Nat.le_of_ble_eq_true rfl) rfl ?_
  refine J_iconstN (n := 0) dX10_thingNamed_0 ?_
  refine J_istore_n (L' := [some (pR (some 158)), some (pI (nI 0))]) dX10_thingNamed_1 (by decide) rfl ?_
  refine J_L (L' := [some (pR (some 158)), some (pI (nI 0))]) rfl ?_
  refine J_forI (α := Unit) (L := fun i1 aa1 => [some (pR (some 158)), some (pI (nI i1))]) (fun i1 aa1 h1 => h = h1 ∧ fdN g V i1 = 0) (e := c) (fun aa1 h1 hI1 => ?_) (fun i1 aa1 h1 hi1 hI1 ih1 => ?_) 0 (()) _ (by omega) (⟨rfl, rfl⟩)
  · show J _ _ _ _ _ [some (pR (some 158)), some (pI (nI c))] _ _ h1
    obtain ⟨rfl, hJ⟩ := hI1
    refine J_iload_n dX10_thingNamed_2 rfl ?_
    refine J_aload_n dX10_thingNamed_3 rfl ?_
    refine J_getR (r := some 160) dX10_thingNamed_4 fX10_17 s158 (fun _ => rfl) (g158_12 hG) ?_
    refine J_bipush (x := nI 8) dX10_thingNamed_7 (by decide) ?_
    refine J_ialdN dX10_thingNamed_9 s160 (by decide) (by omega) ?_
    refine J_cvI (hc) ?_
    refine J_icmp_geN dX10_thingNamed_10 (by omega) (by omega) (fun c1 => ?_) (fun c1 => ?_)
    · refine J_iconst (x := -1) dX10_thingNamed_35 (by decide) ?_
      exact J_retI dX10_thingNamed_36 rfl ⟨by rw [hJ]; rfl, rfl⟩
    · exact (show False by omega).elim
  · show J _ _ _ _ _ [some (pR (some 158)), some (pI (nI i1))] _ _ h1
    obtain ⟨rfl, hJ⟩ := hI1
    have hgi := hg i1 hi1
    refine J_iload_n dX10_thingNamed_2 rfl ?_
    refine J_aload_n dX10_thingNamed_3 rfl ?_
    refine J_getR (r := some 160) dX10_thingNamed_4 fX10_17 s158 (fun _ => rfl) (g158_12 hG) ?_
    refine J_bipush (x := nI 8) dX10_thingNamed_7 (by decide) ?_
    refine J_ialdN dX10_thingNamed_9 s160 (by decide) (by omega) ?_
    refine J_cvI (hc) ?_
    refine J_icmp_geN dX10_thingNamed_10 (by omega) (by omega) (fun c2 => ?_) (fun c2 => ?_)
    · exact (show False by omega).elim
    · refine J_aload_n dX10_thingNamed_13 rfl ?_
      refine J_getR (r := some 162) dX10_thingNamed_14 fX10_25 s158 (fun _ => rfl) (g158_14 hG) ?_
      refine J_iload_n dX10_thingNamed_17 rfl ?_
      refine J_laldN dX10_thingNamed_18 s162 (by decide) (by omega) ?_
      refine J_cvL (hgi.1) ?_
      refine J_aload_n dX10_thingNamed_19 rfl ?_
      refine J_getL dX10_thingNamed_20 fX10_148 s158 (fun _ => rfl) ?_
      refine J_cvL (hw) ?_
      refine J_lcmp dX10_thingNamed_23 ?_
      refine J_lif_ne dX10_thingNamed_24 (fun dc => ?_) (fun dc => ?_)
      · refine J_iincN (n := 1) (L' := [some (pR (some 158)), some (pI (nI (i1 + 1)))]) dX10_thingNamed_29 rfl (by decide) rfl ?_
        refine J_goto dX10_thingNamed_32 ?_
        exact ih1 () _ ⟨rfl, (fdN_s hJ).trans (if_neg (fun y => dc ((pk_lEQ (by omega) (by omega)).mpr y)))⟩
      · refine J_iload_n dX10_thingNamed_27 rfl ?_
        exact J_retI dX10_thingNamed_28 rfl ⟨by rw [fdN_h (by omega) hJ ((pk_lEQ (by omega) (by omega)).mp dc)]; rfl, rfl⟩
theorem c_X10_familyNamed {h : PH} {V c : Nat} {g : Nat → Nat} (hG : GR h.2.2) (hc : h.1 160 9 = nI c) (c6 : c ≤ 6) (hg : ∀ i, i < c → h.2.1 163 i = lN (g i) ∧ g i < 2 ^ 40) (hw : h.2.1 158 10 = lN V) (hV : V < 2 ^ 40) : CtI mX10_familyNamed h [pR (some 158)] (fun v h' => v = hlp (fdN g V c) ∧ h' = h) := by
  refine Ct.of (L := [some (pR (some 158)), none]) rfl rfl (Nat.le_of_ble_eq_true rfl) rfl ?_
  refine J_iconstN (n := 0) dX10_familyNamed_0 ?_
  refine J_istore_n (L' := [some (pR (some 158)), some (pI (nI 0))]) dX10_familyNamed_1 (by decide) rfl ?_
  refine J_L (L' := [some (pR (some 158)), some (pI (nI 0))]) rfl ?_
  refine J_forI (α := Unit) (L := fun i1 aa1 => [some (pR (some 158)), some (pI (nI i1))]) (fun i1 aa1 h1 => h = h1 ∧ fdN g V i1 = 0) (e := c) (fun aa1 h1 hI1 => ?_) (fun i1 aa1 h1 hi1 hI1 ih1 => ?_) 0 (()) _ (by omega) (⟨rfl, rfl⟩)
  · show J _ _ _ _ _ [some (pR (some 158)), some (pI (nI c))] _ _ h1
    obtain ⟨rfl, hJ⟩ := hI1
    refine J_iload_n dX10_familyNamed_2 rfl ?_
    refine J_aload_n dX10_familyNamed_3 rfl ?_
    refine J_getR (r := some 160) dX10_familyNamed_4 fX10_17 s158 (fun _ => rfl) (g158_12 hG) ?_
    refine J_bipush (x := nI 9) dX10_familyNamed_7 (by decide) ?_
    refine J_ialdN dX10_familyNamed_9 s160 (by decide) (by omega) ?_
    refine J_cvI (hc) ?_
    refine J_icmp_geN dX10_familyNamed_10 (by omega) (by omega) (fun c1 => ?_) (fun c1 => ?_)
    · refine J_iconst (x := -1) dX10_familyNamed_35 (by decide) ?_
      exact J_retI dX10_familyNamed_36 rfl ⟨by rw [hJ]; rfl, rfl⟩
    · exact (show False by omega).elim
  · show J _ _ _ _ _ [some (pR (some 158)), some (pI (nI i1))] _ _ h1
    obtain ⟨rfl, hJ⟩ := hI1
    have hgi := hg i1 hi1
    refine J_iload_n dX10_familyNamed_2 rfl ?_
    refine J_aload_n dX10_familyNamed_3 rfl ?_
    refine J_getR (r := some 160) dX10_familyNamed_4 fX10_17 s158 (fun _ => rfl) (g158_12 hG) ?_
    refine J_bipush (x := nI 9) dX10_familyNamed_7 (by decide) ?_
    refine J_ialdN dX10_familyNamed_9 s160 (by decide) (by omega) ?_
    refine J_cvI (hc) ?_
    refine J_icmp_geN dX10_familyNamed_10 (by omega) (by omega) (fun c2 => ?_) (fun c2 => ?_)
    · exact (show False by omega).elim
    · refine J_aload_n dX10_familyNamed_13 rfl ?_
      refine J_getR (r := some 163) dX10_familyNamed_14 fX10_28 s158 (fun _ => rfl) (g158_15 hG) ?_
      refine J_iload_n dX10_familyNamed_17 rfl ?_
      refine J_laldN dX10_familyNamed_18 s163 (by decide) (by omega) ?_
      refine J_cvL (hgi.1) ?_
      refine J_aload_n dX10_familyNamed_19 rfl ?_
      refine J_getL dX10_familyNamed_20 fX10_148 s158 (fun _ => rfl) ?_
      refine J_cvL (hw) ?_
      refine J_lcmp dX10_familyNamed_23 ?_
      refine J_lif_ne dX10_familyNamed_24 (fun dc => ?_) (fun dc => ?_)
      · refine J_iincN (n := 1) (L' := [some (pR (some 158)), some (pI (nI (i1 + 1)))]) dX10_familyNamed_29 rfl (by decide) rfl ?_
        refine J_goto dX10_familyNamed_32 ?_
        exact ih1 () _ ⟨rfl, (fdN_s hJ).trans (if_neg (fun y => dc ((pk_lEQ (by omega) (by omega)).mpr y)))⟩
      · refine J_iload_n dX10_familyNamed_27 rfl ?_
        exact J_retI dX10_familyNamed_28 rfl ⟨by rw [fdN_h (by omega) hJ ((pk_lEQ (by omega) (by omega)).mp dc)]; rfl, rfl⟩
theorem c_X10_isWeighed {h : PH} {W : Nat} {x : Nat → Nat} (hG : GR h.2.2) (h7 : h.1 160 7 = nI W) (hW : W ≤ 4) (hx : ∀ w, w < W → h.1 164 (4 * (4 + w)) = nI (x w)) (hb : ∀ w, w < W → x w ≤ 10) : CtI mX10_isWeighed h [pR (some 158)] (fun v h' => v = bI (W = 0 ∨ sm x W = 10) ∧ h' = h) := by
  have hq := sm_b W hb
  refine Ct.of (L := [some (pR (some 158)), none, none]) rfl rfl (Nat.le_of_ble_eq_true rfl) rfl ?_
  refine J_iconstN (n := 0) dX10_isWeighed_0 ?_
  refine J_istore_n (L' := [some (pR (some 158)), some (pI (nI 0)), none]) dX10_isWeighed_1 (by decide) rfl ?_
  refine J_iconstN (n := 0) dX10_isWeighed_2 ?_
  refine J_istore_n (L' := [some (pR (some 158)), some (pI (nI 0)), some (pI (nI 0))]) dX10_isWeighed_3 (by decide) rfl ?_
  refine J_L (L' := [some (pR (some 158)), some (pI (nI (sm x 0))), some (pI (nI 0))]) rfl ?_
  refine J_for (L := fun i1 => [some (pR (some 158)), some (pI (nI (sm x i1))), some (pI (nI i1))]) (hf := fun i1 => h) (e := W) ?_ (fun i1 hi1 ih1 => ?_) 0 (by omega)
  · show J _ _ _ _ _ [some (pR (some 158)), some (pI (nI (sm x W))), some (pI (nI W))] _ _ (h)
    refine J_iload_n dX10_isWeighed_4 rfl ?_
    refine J_aload_n dX10_isWeighed_5 rfl ?_
    refine J_getR (r := some 160) dX10_isWeighed_6 fX10_17 s158 (fun _ => rfl) (g158_12 hG) ?_
    refine J_bipush (x := nI 7) dX10_isWeighed_9 (by decide) ?_
    refine J_ialdN dX10_isWeighed_11 s160 (by decide) (by omega) ?_
    refine J_cvI (h7) ?_
    refine J_icmp_geN dX10_isWeighed_12 (by omega) (by omega) (fun c1 => ?_) (fun c1 => ?_)
    · refine J_aload_n dX10_isWeighed_34 rfl ?_
      refine J_getR (r := some 160) dX10_isWeighed_35 fX10_17 s158 (fun _ => rfl) (g158_12 hG) ?_
      refine J_bipush (x := nI 7) dX10_isWeighed_38 (by decide) ?_
      refine J_ialdN dX10_isWeighed_40 s160 (by decide) (by omega) ?_
      refine J_cvI (h7) ?_
      refine J_if_eqN dX10_isWeighed_41 (by omega) (fun d1 => ?_) (fun d1 => ?_)
      · refine J_iconstN (n := 1) dX10_isWeighed_50 ?_
        refine J_goto dX10_isWeighed_51 ?_
        exact J_retZ dX10_isWeighed_55 rfl rfl ⟨bI_t (Or.inl d1), rfl⟩
      · refine J_iload_n dX10_isWeighed_44 rfl ?_
        refine J_bipush (x := nI 10) dX10_isWeighed_45 (by decide) ?_
        refine J_icmp_neN dX10_isWeighed_47 (by omega) (by omega) (fun d2 => ?_) (fun d2 => ?_)
        · refine J_iconstN (n := 0) dX10_isWeighed_54 ?_
          exact J_retZ dX10_isWeighed_55 rfl rfl ⟨bI_f (fun y => y.elim d1 d2), rfl⟩
        · refine J_iconstN (n := 1) dX10_isWeighed_50 ?_
          refine J_goto dX10_isWeighed_51 ?_
          exact J_retZ dX10_isWeighed_55 rfl rfl ⟨bI_t (Or.inr d2), rfl⟩
    · exact (show False by omega).elim
  · show J _ _ _ _ _ [some (pR (some 158)), some (pI (nI (sm x i1))), some (pI (nI i1))] _ _ (h)
    refine J_iload_n dX10_isWeighed_4 rfl ?_
    refine J_aload_n dX10_isWeighed_5 rfl ?_
    refine J_getR (r := some 160) dX10_isWeighed_6 fX10_17 s158 (fun _ => rfl) (g158_12 hG) ?_
    refine J_bipush (x := nI 7) dX10_isWeighed_9 (by decide) ?_
    refine J_ialdN dX10_isWeighed_11 s160 (by decide) (by omega) ?_
    refine J_cvI (h7) ?_
    refine J_icmp_geN dX10_isWeighed_12 (by omega) (by omega) (fun c4 => ?_) (fun c4 => ?_)
    · exact (show False by omega).elim
    · refine J_iload_n dX10_isWeighed_15 rfl ?_
      refine J_aload_n dX10_isWeighed_16 rfl ?_
      refine J_getR (r := some 164) dX10_isWeighed_17 fX10_31 s158 (fun _ => rfl) (g158_16 hG) ?_
      refine J_iconstN (n := 4) dX10_isWeighed_20 ?_
      refine J_iconstN (n := 4) dX10_isWeighed_21 ?_
      refine J_iload_n dX10_isWeighed_22 rfl ?_
      refine J_iaddN dX10_isWeighed_23 ?_
      refine J_imulN dX10_isWeighed_24 ?_
      refine J_ialdN dX10_isWeighed_25 s164 (by decide) (by omega) ?_
      refine J_cvI ((hx i1 (by omega))) ?_
      refine J_iaddN dX10_isWeighed_26 ?_
      refine J_istore_n (L' := [some (pR (some 158)), some (pI (nI (sm x i1 + x i1))), some (pI (nI i1))]) dX10_isWeighed_27 (by decide) rfl ?_
      refine J_iincN (n := 1) (L' := [some (pR (some 158)), some (pI (nI (sm x i1 + x i1))), some (pI (nI (i1 + 1)))]) dX10_isWeighed_28 rfl (by decide) rfl ?_
      refine J_goto dX10_isWeighed_31 ?_
      exact ih1
