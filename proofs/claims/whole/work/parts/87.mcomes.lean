/-! ===== rows of the model that come to hold ===== -/
def Cm (c m : Nat) (h h' : PH) : Prop := (∀ a, a ≠ c → h'.1 a = h.1 a) ∧ h'.2 = h.2 ∧ (∀ i, i < m → h'.1 c i = h.1 c (m + i)) ∧ ∀ i, m ≤ i → h'.1 c i = h.1 c i
def Cj (c m j : Nat) (h h' : PH) : Prop := (∀ a, a ≠ c → h'.1 a = h.1 a) ∧ h'.2 = h.2 ∧ (∀ i, i < j → h'.1 c i = h.1 c (m + i)) ∧ ∀ i, j ≤ i → h'.1 c i = h.1 c i
theorem Cj.n {c m j : Nat} {h h' : PH} (a : Cj c m j h h') : Cj c m (j + 1) h (sI h' c j (h.1 c (m + j))) := by
  obtain ⟨a1, a2, a3, a4⟩ := a
  refine ⟨fun b z => (rW_c z).trans (a1 b z), a2, fun i hi => ?_, fun i hi => (rI_k (by omega)).trans (a4 i (by omega))⟩
  by_cases q : i = j
  · rw [q]
    exact rI_s
  · exact (rI_k q).trans (a3 i (by omega))
theorem c_X10_comes_160 {h : PH} : CtV mX10_comes h [pR (some 160), pI (nI 5)] (fun h' => Cm 160 5 h h') := by
  refine Ct.of (L := [some (pR (some 160)), some (pI (nI 5)), none]) rfl rfl (Nat.le_of_ble_eq_true rfl) rfl ?_
  refine J_iconstN (n := 0) dX10_comes_0 ?_
  refine J_istore_n (L' := [some (pR (some 160)), some (pI (nI 5)), some (pI (nI 0))]) dX10_comes_1 (by decide) rfl ?_
  refine J_L (L' := [some (pR (some 160)), some (pI (nI 5)), some (pI (nI 0))]) rfl ?_
  refine J_forI (α := Unit) (L := fun i1 aa1 => [some (pR (some 160)), some (pI (nI 5)), some (pI (nI i1))]) (fun i1 aa1 h1 => Cj 160 5 i1 h h1) (e := 5) (fun aa1 h1 hI1 => ?_) (fun i1 aa1 h1 hi1 hI1 ih1 => ?_) 0 (()) _ (by omega) (⟨fun _ _ => rfl, rfl, fun i hi => absurd hi (Nat.not_lt_zero i), fun _ _ => rfl⟩)
  · show J _ _ _ _ _ [some (pR (some 160)), some (pI (nI 5)), some (pI (nI 5))] _ _ h1
    refine J_iload_n dX10_comes_2 rfl ?_
    refine J_iload_n dX10_comes_3 rfl ?_
    refine J_icmp_geN dX10_comes_4 (by decide) (by decide) (fun c0 => ?_) (fun c0 => absurd c0 (by decide))
    exact J_retV dX10_comes_21 rfl hI1
  · show J _ _ _ _ _ [some (pR (some 160)), some (pI (nI 5)), some (pI (nI i1))] _ _ h1
    have hI := hI1
    refine J_iload_n dX10_comes_2 rfl ?_
    refine J_iload_n dX10_comes_3 rfl ?_
    refine J_icmp_geN dX10_comes_4 (by omega) (by omega) (fun c1 => ?_) (fun c1 => ?_)
    · exact (show False by omega).elim
    · refine J_aload_n dX10_comes_7 rfl ?_
      refine J_iload_n dX10_comes_8 rfl ?_
      refine J_aload_n dX10_comes_9 rfl ?_
      refine J_iload_n dX10_comes_10 rfl ?_
      refine J_iload_n dX10_comes_11 rfl ?_
      refine J_iaddN dX10_comes_12 ?_
      refine J_ialdN dX10_comes_13 s160 (by decide) (by omega) ?_
      refine J_cvI ((hI.2.2.2 _ (by omega))) ?_
      refine J_iastN dX10_comes_14 s160 (by decide) (by omega) ?_
      refine J_iincN (n := 1) (L' := [some (pR (some 160)), some (pI (nI 5)), some (pI (nI (i1 + 1)))]) dX10_comes_15 rfl (by decide) rfl ?_
      refine J_goto dX10_comes_18 ?_
      exact ih1 () _ hI.n
theorem c_X10_comes_164 {h : PH} : CtV mX10_comes h [pR (some 164), pI (nI 16)] (fun h' => Cm 164 16 h h') := by
  refine Ct.of (L := [some (pR (some 164)), some (pI (nI 16)), none]) rfl rfl (Nat.le_of_ble_eq_true rfl) rfl ?_
  refine J_iconstN (n := 0) dX10_comes_0 ?_
  refine J_istore_n (L' := [some (pR (some 164)), some (pI (nI 16)), some (pI (nI 0))]) dX10_comes_1 (by decide) rfl ?_
  refine J_L (L' := [some (pR (some 164)), some (pI (nI 16)), some (pI (nI 0))]) rfl ?_
  refine J_forI (α := Unit) (L := fun i1 aa1 => [some (pR (some 164)), some (pI (nI 16)), some (pI (nI i1))]) (fun i1 aa1 h1 => Cj 164 16 i1 h h1) (e := 16) (fun aa1 h1 hI1 => ?_) (fun i1 aa1 h1 hi1 hI1 ih1 => ?_) 0 (()) _ (by omega) (⟨fun _ _ => rfl, rfl, fun i hi => absurd hi (Nat.not_lt_zero i), fun _ _ => rfl⟩)
  · show J _ _ _ _ _ [some (pR (some 164)), some (pI (nI 16)), some (pI (nI 16))] _ _ h1
    refine J_iload_n dX10_comes_2 rfl ?_
    refine J_iload_n dX10_comes_3 rfl ?_
    refine J_icmp_geN dX10_comes_4 (by decide) (by decide) (fun c0 => ?_) (fun c0 => absurd c0 (by decide))
    exact J_retV dX10_comes_21 rfl hI1
  · show J _ _ _ _ _ [some (pR (some 164)), some (pI (nI 16)), some (pI (nI i1))] _ _ h1
    have hI := hI1
    refine J_iload_n dX10_comes_2 rfl ?_
    refine J_iload_n dX10_comes_3 rfl ?_
    refine J_icmp_geN dX10_comes_4 (by omega) (by omega) (fun c1 => ?_) (fun c1 => ?_)
    · exact (show False by omega).elim
    · refine J_aload_n dX10_comes_7 rfl ?_
      refine J_iload_n dX10_comes_8 rfl ?_
      refine J_aload_n dX10_comes_9 rfl ?_
      refine J_iload_n dX10_comes_10 rfl ?_
      refine J_iload_n dX10_comes_11 rfl ?_
      refine J_iaddN dX10_comes_12 ?_
      refine J_ialdN dX10_comes_13 s164 (by decide) (by omega) ?_
      refine J_cvI ((hI.2.2.2 _ (by omega))) ?_
      refine J_iastN dX10_comes_14 s164 (by decide) (by omega) ?_
      refine J_iincN (n := 1) (L' := [some (pR (some 164)), some (pI (nI 16)), some (pI (nI (i1 + 1)))]) dX10_comes_15 rfl (by decide) rfl ?_
      refine J_goto dX10_comes_18 ?_
      exact ih1 () _ hI.n
theorem c_X10_comes_165 {h : PH} : CtV mX10_comes h [pR (some 165), pI (nI 24)] (fun h' => Cm 165 24 h h') := by
  refine Ct.of (L := [some (pR (some 165)), some (pI (nI 24)), none]) rfl rfl (Nat.le_of_ble_eq_true rfl) rfl ?_
  refine J_iconstN (n := 0) dX10_comes_0 ?_
  refine J_istore_n (L' := [some (pR (some 165)), some (pI (nI 24)), some (pI (nI 0))]) dX10_comes_1 (by decide) rfl ?_
  refine J_L (L' := [some (pR (some 165)), some (pI (nI 24)), some (pI (nI 0))]) rfl ?_
  refine J_forI (α := Unit) (L := fun i1 aa1 => [some (pR (some 165)), some (pI (nI 24)), some (pI (nI i1))]) (fun i1 aa1 h1 => Cj 165 24 i1 h h1) (e := 24) (fun aa1 h1 hI1 => ?_) (fun i1 aa1 h1 hi1 hI1 ih1 => ?_) 0 (()) _ (by omega) (⟨fun _ _ => rfl, rfl, fun i hi => absurd hi (Nat.not_lt_zero i), fun _ _ => rfl⟩)
  · show J _ _ _ _ _ [some (pR (some 165)), some (pI (nI 24)), some (pI (nI 24))] _ _ h1
    refine J_iload_n dX10_comes_2 rfl ?_
    refine J_iload_n dX10_comes_3 rfl ?_
    refine J_icmp_geN dX10_comes_4 (by decide) (by decide) (fun c0 => ?_) (fun c0 => absurd c0 (by decide))
    exact J_retV dX10_comes_21 rfl hI1
  · show J _ _ _ _ _ [some (pR (some 165)), some (pI (nI 24)), some (pI (nI i1))] _ _ h1
    have hI := hI1
    refine J_iload_n dX10_comes_2 rfl ?_
    refine J_iload_n dX10_comes_3 rfl ?_
    refine J_icmp_geN dX10_comes_4 (by omega) (by omega) (fun c1 => ?_) (fun c1 => ?_)
    · exact (show False by omega).elim
    · refine J_aload_n dX10_comes_7 rfl ?_
      refine J_iload_n dX10_comes_8 rfl ?_
      refine J_aload_n dX10_comes_9 rfl ?_
      refine J_iload_n dX10_comes_10 rfl ?_
      refine J_iload_n dX10_comes_11 rfl ?_
      refine J_iaddN dX10_comes_12 ?_
      refine J_ialdN dX10_comes_13 s165 (by decide) (by omega) ?_
      refine J_cvI ((hI.2.2.2 _ (by omega))) ?_
      refine J_iastN dX10_comes_14 s165 (by decide) (by omega) ?_
      refine J_iincN (n := 1) (L' := [some (pR (some 165)), some (pI (nI 24)), some (pI (nI (i1 + 1)))]) dX10_comes_15 rfl (by decide) rfl ?_
      refine J_goto dX10_comes_18 ?_
      exact ih1 () _ hI.n
theorem c_X10_comes_166 {h : PH} : CtV mX10_comes h [pR (some 166), pI (nI 80)] (fun h' => Cm 166 80 h h') := by
  refine Ct.of (L := [some (pR (some 166)), some (pI (nI 80)), none]) rfl rfl (Nat.le_of_ble_eq_true rfl) rfl ?_
  refine J_iconstN (n := 0) dX10_comes_0 ?_
  refine J_istore_n (L' := [some (pR (some 166)), some (pI (nI 80)), some (pI (nI 0))]) dX10_comes_1 (by decide) rfl ?_
  refine J_L (L' := [some (pR (some 166)), some (pI (nI 80)), some (pI (nI 0))]) rfl ?_
  refine J_forI (α := Unit) (L := fun i1 aa1 => [some (pR (some 166)), some (pI (nI 80)), some (pI (nI i1))]) (fun i1 aa1 h1 => Cj 166 80 i1 h h1) (e := 80) (fun aa1 h1 hI1 => ?_) (fun i1 aa1 h1 hi1 hI1 ih1 => ?_) 0 (()) _ (by omega) (⟨fun _ _ => rfl, rfl, fun i hi => absurd hi (Nat.not_lt_zero i), fun _ _ => rfl⟩)
  · show J _ _ _ _ _ [some (pR (some 166)), some (pI (nI 80)), some (pI (nI 80))] _ _ h1
    refine J_iload_n dX10_comes_2 rfl ?_
    refine J_iload_n dX10_comes_3 rfl ?_
    refine J_icmp_geN dX10_comes_4 (by decide) (by decide) (fun c0 => ?_) (fun c0 => absurd c0 (by decide))
    exact J_retV dX10_comes_21 rfl hI1
  · show J _ _ _ _ _ [some (pR (some 166)), some (pI (nI 80)), some (pI (nI i1))] _ _ h1
    have hI := hI1
    refine J_iload_n dX10_comes_2 rfl ?_
    refine J_iload_n dX10_comes_3 rfl ?_
    refine J_icmp_geN dX10_comes_4 (by omega) (by omega) (fun c1 => ?_) (fun c1 => ?_)
    · exact (show False by omega).elim
    · refine J_aload_n dX10_comes_7 rfl ?_
      refine J_iload_n dX10_comes_8 rfl ?_
      refine J_aload_n dX10_comes_9 rfl ?_
      refine J_iload_n dX10_comes_10 rfl ?_
      refine J_iload_n dX10_comes_11 rfl ?_
      refine J_iaddN dX10_comes_12 ?_
      refine J_ialdN dX10_comes_13 s166 (by decide) (by omega) ?_
      refine J_cvI ((hI.2.2.2 _ (by omega))) ?_
      refine J_iastN dX10_comes_14 s166 (by decide) (by omega) ?_
      refine J_iincN (n := 1) (L' := [some (pR (some 166)), some (pI (nI 80)), some (pI (nI (i1 + 1)))]) dX10_comes_15 rfl (by decide) rfl ?_
      refine J_goto dX10_comes_18 ?_
      exact ih1 () _ hI.n
theorem c_X10_comes_168 {h : PH} : CtV mX10_comes h [pR (some 168), pI (nI 4)] (fun h' => Cm 168 4 h h') := by
  refine Ct.of (L := [some (pR (some 168)), some (pI (nI 4)), none]) rfl rfl (Nat.le_of_ble_eq_true rfl) rfl ?_
  refine J_iconstN (n := 0) dX10_comes_0 ?_
  refine J_istore_n (L' := [some (pR (some 168)), some (pI (nI 4)), some (pI (nI 0))]) dX10_comes_1 (by decide) rfl ?_
  refine J_L (L' := [some (pR (some 168)), some (pI (nI 4)), some (pI (nI 0))]) rfl ?_
  refine J_forI (α := Unit) (L := fun i1 aa1 => [some (pR (some 168)), some (pI (nI 4)), some (pI (nI i1))]) (fun i1 aa1 h1 => Cj 168 4 i1 h h1) (e := 4) (fun aa1 h1 hI1 => ?_) (fun i1 aa1 h1 hi1 hI1 ih1 => ?_) 0 (()) _ (by omega) (⟨fun _ _ => rfl, rfl, fun i hi => absurd hi (Nat.not_lt_zero i), fun _ _ => rfl⟩)
  · show J _ _ _ _ _ [some (pR (some 168)), some (pI (nI 4)), some (pI (nI 4))] _ _ h1
    refine J_iload_n dX10_comes_2 rfl ?_
    refine J_iload_n dX10_comes_3 rfl ?_
    refine J_icmp_geN dX10_comes_4 (by decide) (by decide) (fun c0 => ?_) (fun c0 => absurd c0 (by decide))
    exact J_retV dX10_comes_21 rfl hI1
  · show J _ _ _ _ _ [some (pR (some 168)), some (pI (nI 4)), some (pI (nI i1))] _ _ h1
    have hI := hI1
    refine J_iload_n dX10_comes_2 rfl ?_
    refine J_iload_n dX10_comes_3 rfl ?_
    refine J_icmp_geN dX10_comes_4 (by omega) (by omega) (fun c1 => ?_) (fun c1 => ?_)
    · exact (show False by omega).elim
    · refine J_aload_n dX10_comes_7 rfl ?_
      refine J_iload_n dX10_comes_8 rfl ?_
      refine J_aload_n dX10_comes_9 rfl ?_
      refine J_iload_n dX10_comes_10 rfl ?_
      refine J_iload_n dX10_comes_11 rfl ?_
      refine J_iaddN dX10_comes_12 ?_
      refine J_ialdN dX10_comes_13 s168 (by decide) (by omega) ?_
      refine J_cvI ((hI.2.2.2 _ (by omega))) ?_
      refine J_iastN dX10_comes_14 s168 (by decide) (by omega) ?_
      refine J_iincN (n := 1) (L' := [some (pR (some 168)), some (pI (nI 4)), some (pI (nI (i1 + 1)))]) dX10_comes_15 rfl (by decide) rfl ?_
      refine J_goto dX10_comes_18 ?_
      exact ih1 () _ hI.n
theorem c_X10_comes_169 {h : PH} : CtV mX10_comes h [pR (some 169), pI (nI 4)] (fun h' => Cm 169 4 h h') := by
  refine Ct.of (L := [some (pR (some 169)), some (pI (nI 4)), none]) rfl rfl (Nat.le_of_ble_eq_true rfl) rfl ?_
  refine J_iconstN (n := 0) dX10_comes_0 ?_
  refine J_istore_n (L' := [some (pR (some 169)), some (pI (nI 4)), some (pI (nI 0))]) dX10_comes_1 (by decide) rfl ?_
  refine J_L (L' := [some (pR (some 169)), some (pI (nI 4)), some (pI (nI 0))]) rfl ?_
  refine J_forI (α := Unit) (L := fun i1 aa1 => [some (pR (some 169)), some (pI (nI 4)), some (pI (nI i1))]) (fun i1 aa1 h1 => Cj 169 4 i1 h h1) (e := 4) (fun aa1 h1 hI1 => ?_) (fun i1 aa1 h1 hi1 hI1 ih1 => ?_) 0 (()) _ (by omega) (⟨fun _ _ => rfl, rfl, fun i hi => absurd hi (Nat.not_lt_zero i), fun _ _ => rfl⟩)
  · show J _ _ _ _ _ [some (pR (some 169)), some (pI (nI 4)), some (pI (nI 4))] _ _ h1
    refine J_iload_n dX10_comes_2 rfl ?_
    refine J_iload_n dX10_comes_3 rfl ?_
    refine J_icmp_geN dX10_comes_4 (by decide) (by decide) (fun c0 => ?_) (fun c0 => absurd c0 (by decide))
    exact J_retV dX10_comes_21 rfl hI1
  · show J _ _ _ _ _ [some (pR (some 169)), some (pI (nI 4)), some (pI (nI i1))] _ _ h1
    have hI := hI1
    refine J_iload_n dX10_comes_2 rfl ?_
    refine J_iload_n dX10_comes_3 rfl ?_
    refine J_icmp_geN dX10_comes_4 (by omega) (by omega) (fun c1 => ?_) (fun c1 => ?_)
    · exact (show False by omega).elim
    · refine J_aload_n dX10_comes_7 rfl ?_
      refine J_iload_n dX10_comes_8 rfl ?_
      refine J_aload_n dX10_comes_9 rfl ?_
      refine J_iload_n dX10_comes_10 rfl ?_
      refine J_iload_n dX10_comes_11 rfl ?_
      refine J_iaddN dX10_comes_12 ?_
      refine J_ialdN dX10_comes_13 s169 (by decide) (by omega) ?_
      refine J_cvI ((hI.2.2.2 _ (by omega))) ?_
      refine J_iastN dX10_comes_14 s169 (by decide) (by omega) ?_
      refine J_iincN (n := 1) (L' := [some (pR (some 169)), some (pI (nI 4)), some (pI (nI (i1 + 1)))]) dX10_comes_15 rfl (by decide) rfl ?_
      refine J_goto dX10_comes_18 ?_
      exact ih1 () _ hI.n
theorem c_X10_comes_170 {h : PH} : CtV mX10_comes h [pR (some 170), pI (nI 18)] (fun h' => Cm 170 18 h h') := by
  refine Ct.of (L := [some (pR (some 170)), some (pI (nI 18)), none]) rfl rfl (Nat.le_of_ble_eq_true rfl) rfl ?_
  refine J_iconstN (n := 0) dX10_comes_0 ?_
  refine J_istore_n (L' := [some (pR (some 170)), some (pI (nI 18)), some (pI (nI 0))]) dX10_comes_1 (by decide) rfl ?_
  refine J_L (L' := [some (pR (some 170)), some (pI (nI 18)), some (pI (nI 0))]) rfl ?_
  refine J_forI (α := Unit) (L := fun i1 aa1 => [some (pR (some 170)), some (pI (nI 18)), some (pI (nI i1))]) (fun i1 aa1 h1 => Cj 170 18 i1 h h1) (e := 18) (fun aa1 h1 hI1 => ?_) (fun i1 aa1 h1 hi1 hI1 ih1 => ?_) 0 (()) _ (by omega) (⟨fun _ _ => rfl, rfl, fun i hi => absurd hi (Nat.not_lt_zero i), fun _ _ => rfl⟩)
  · show J _ _ _ _ _ [some (pR (some 170)), some (pI (nI 18)), some (pI (nI 18))] _ _ h1
    refine J_iload_n dX10_comes_2 rfl ?_
    refine J_iload_n dX10_comes_3 rfl ?_
    refine J_icmp_geN dX10_comes_4 (by decide) (by decide) (fun c0 => ?_) (fun c0 => absurd c0 (by decide))
    exact J_retV dX10_comes_21 rfl hI1
  · show J _ _ _ _ _ [some (pR (some 170)), some (pI (nI 18)), some (pI (nI i1))] _ _ h1
    have hI := hI1
    refine J_iload_n dX10_comes_2 rfl ?_
    refine J_iload_n dX10_comes_3 rfl ?_
    refine J_icmp_geN dX10_comes_4 (by omega) (by omega) (fun c1 => ?_) (fun c1 => ?_)
    · exact (show False by omega).elim
    · refine J_aload_n dX10_comes_7 rfl ?_
      refine J_iload_n dX10_comes_8 rfl ?_
      refine J_aload_n dX10_comes_9 rfl ?_
      refine J_iload_n dX10_comes_10 rfl ?_
      refine J_iload_n dX10_comes_11 rfl ?_
      refine J_iaddN dX10_comes_12 ?_
      refine J_ialdN dX10_comes_13 s170 (by decide) (by omega) ?_
      refine J_cvI ((hI.2.2.2 _ (by omega))) ?_
      refine J_iastN dX10_comes_14 s170 (by decide) (by omega) ?_
      refine J_iincN (n := 1) (L' := [some (pR (some 170)), some (pI (nI 18)), some (pI (nI (i1 + 1)))]) dX10_comes_15 rfl (by decide) rfl ?_
      refine J_goto dX10_comes_18 ?_
      exact ih1 () _ hI.n
