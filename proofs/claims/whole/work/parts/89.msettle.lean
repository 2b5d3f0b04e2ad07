/-! ===== the model settles a text ===== -/
def Sg (h g : PH) : Prop := (∀ a, a ≠ 160 → a ≠ 164 → a ≠ 165 → a ≠ 166 → a ≠ 168 → a ≠ 169 → a ≠ 170 → g.1 a = h.1 a) ∧ g.2 = h.2 ∧ (∀ i, i < 5 → g.1 160 i = h.1 160 (5 + i)) ∧ (∀ i, i < 16 → g.1 164 i = h.1 164 (16 + i)) ∧ (∀ i, i < 24 → g.1 165 i = h.1 165 (24 + i)) ∧ (∀ i, i < 80 → g.1 166 i = h.1 166 (80 + i)) ∧ (∀ i, i < 4 → g.1 168 i = h.1 168 (4 + i)) ∧ (∀ i, i < 4 → g.1 169 i = h.1 169 (4 + i)) ∧ (∀ i, i < 18 → g.1 170 i = h.1 170 (18 + i))
def Zr (j : Nat) (h h' : PH) : Prop := (∀ a, a ≠ 184 → h'.1 a = h.1 a) ∧ h'.2 = h.2 ∧ (∀ k, k < j → h'.1 184 k = nI 0) ∧ ∀ k, j ≤ k → h'.1 184 k = h.1 184 k
theorem Zr.n {j : Nat} {h h' : PH} (a : Zr j h h') : Zr (j + 1) h (sI h' 184 j (nI 0)) := by
  obtain ⟨a1, a2, a3, a4⟩ := a
  refine ⟨fun b z => (rW_c z).trans (a1 b z), a2, fun i hi => ?_, fun i hi => (rI_k (by omega)).trans (a4 i (by omega))⟩
  by_cases q : i = j
  · rw [q]
    exact rI_s
  · exact (rI_k q).trans (a3 i (by omega))
theorem c_X10_settle {h : PH} (hG : GR h.2.2) : CtV mX10_settle h [pR (some 158)] (fun h' => ∃ g z, Sg h g ∧ Zr 32 (sI (sI (sI (sI (sI (sI (sI (sI (g) 171 0 (nI 0)) 172 0 (nI 0)) 171 1 (nI 0)) 172 1 (nI 0)) 171 2 (nI 0)) 172 2 (nI 0)) 171 3 (nI 0)) 172 3 (nI 0)) z ∧ h' = sI (sI (sI (sI (z) 186 0 (vp_nar .boolean (nI 0))) 186 1 (vp_nar .boolean (nI 0))) 186 2 (vp_nar .boolean (nI 0))) 158 42 (nI 0)) := by
  refine Ct.of (L := [some (pR (some 158)), none]) rfl rfl (Nat.le_of_ble_eq_true rfl) rfl ?_
  refine J_aload_n dX10_settle_0 rfl ?_
  refine J_getR (r := some 160) dX10_settle_1 fX10_17 s158 (fun _ => rfl) (g158_12 hG) ?_
  refine J_iconstN (n := 5) dX10_settle_4 ?_
  refine J_cSV (as := [pR (some 160), pI (nI 5)]) (st := []) dX10_settle_5 lX10_185 okX10_comes sX10_comes rfl rfl (Nat.le_of_ble_eq_true rfl) ⟨Nat.le_of_ble_eq_true rfl, Nat.le_of_ble_eq_true rfl⟩ CR.f (c_X10_comes_160) (fun g1 e1 => ?_)
  have hG : GR g1.2.2 := by rw [e1.2.1]; exact hG
  refine J_aload_n dX10_settle_8 rfl ?_
  refine J_getR (r := some 164) dX10_settle_9 fX10_31 s158 (fun _ => rfl) (g158_16 hG) ?_
  refine J_bipush (x := nI 16) dX10_settle_12 (by decide) ?_
  refine J_cSV (as := [pR (some 164), pI (nI 16)]) (st := []) dX10_settle_14 lX10_185 okX10_comes sX10_comes rfl rfl (Nat.le_of_ble_eq_true rfl) ⟨Nat.le_of_ble_eq_true rfl, Nat.le_of_ble_eq_true rfl⟩ CR.f (c_X10_comes_164) (fun g2 e2 => ?_)
  have hG : GR g2.2.2 := by rw [e2.2.1]; exact hG
  refine J_aload_n dX10_settle_17 rfl ?_
  refine J_getR (r := some 165) dX10_settle_18 fX10_34 s158 (fun _ => rfl) (g158_17 hG) ?_
  refine J_bipush (x := nI 24) dX10_settle_21 (by decide) ?_
  refine J_cSV (as := [pR (some 165), pI (nI 24)]) (st := []) dX10_settle_23 lX10_185 okX10_comes sX10_comes rfl rfl (Nat.le_of_ble_eq_true rfl) ⟨Nat.le_of_ble_eq_true rfl, Nat.le_of_ble_eq_true rfl⟩ CR.f (c_X10_comes_165) (fun g3 e3 => ?_)
  have hG : GR g3.2.2 := by rw [e3.2.1]; exact hG
  refine J_aload_n dX10_settle_26 rfl ?_
  refine J_getR (r := some 166) dX10_settle_27 fX10_37 s158 (fun _ => rfl) (g158_18 hG) ?_
  refine J_bipush (x := nI 80) dX10_settle_30 (by decide) ?_
  refine J_cSV (as := [pR (some 166), pI (nI 80)]) (st := []) dX10_settle_32 lX10_185 okX10_comes sX10_comes rfl rfl (Nat.le_of_ble_eq_true rfl) ⟨Nat.le_of_ble_eq_true rfl, Nat.le_of_ble_eq_true rfl⟩ CR.f (c_X10_comes_166) (fun g4 e4 => ?_)
  have hG : GR g4.2.2 := by rw [e4.2.1]; exact hG
  refine J_aload_n dX10_settle_35 rfl ?_
  refine J_getR (r := some 168) dX10_settle_36 fX10_44 s158 (fun _ => rfl) (g158_20 hG) ?_
  refine J_iconstN (n := 4) dX10_settle_39 ?_
  refine J_cSV (as := [pR (some 168), pI (nI 4)]) (st := []) dX10_settle_40 lX10_185 okX10_comes sX10_comes rfl rfl (Nat.le_of_ble_eq_true rfl) ⟨Nat.le_of_ble_eq_true rfl, Nat.le_of_ble_eq_true rfl⟩ CR.f (c_X10_comes_168) (fun g5 e5 => ?_)
  have hG : GR g5.2.2 := by rw [e5.2.1]; exact hG
  refine J_aload_n dX10_settle_43 rfl ?_
  refine J_getR (r := some 169) dX10_settle_44 fX10_47 s158 (fun _ => rfl) (g158_21 hG) ?_
  refine J_iconstN (n := 4) dX10_settle_47 ?_
  refine J_cSV (as := [pR (some 169), pI (nI 4)]) (st := []) dX10_settle_48 lX10_185 okX10_comes sX10_comes rfl rfl (Nat.le_of_ble_eq_true rfl) ⟨Nat.le_of_ble_eq_true rfl, Nat.le_of_ble_eq_true rfl⟩ CR.f (c_X10_comes_169) (fun g6 e6 => ?_)
  have hG : GR g6.2.2 := by rw [e6.2.1]; exact hG
  refine J_aload_n dX10_settle_51 rfl ?_
  refine J_getR (r := some 170) dX10_settle_52 fX10_50 s158 (fun _ => rfl) (g158_22 hG) ?_
  refine J_bipush (x := nI 18) dX10_settle_55 (by decide) ?_
  refine J_cSV (as := [pR (some 170), pI (nI 18)]) (st := []) dX10_settle_57 lX10_185 okX10_comes sX10_comes rfl rfl (Nat.le_of_ble_eq_true rfl) ⟨Nat.le_of_ble_eq_true rfl, Nat.le_of_ble_eq_true rfl⟩ CR.f (c_X10_comes_170) (fun g7 e7 => ?_)
  have hG : GR g7.2.2 := by rw [e7.2.1]; exact hG
  refine J_iconstN (n := 0) dX10_settle_60 ?_
  refine J_istore_n (L' := [some (pR (some 158)), some (pI (nI 0))]) dX10_settle_61 (by decide) rfl ?_
  refine J_iload_n dX10_settle_62 rfl ?_
  refine J_iconstN (n := 4) dX10_settle_63 ?_
  refine J_icmp_geN dX10_settle_64 (by decide) (by decide) (fun c0 => absurd c0 (by decide)) (fun c0 => ?_)
  refine J_aload_n dX10_settle_67 rfl ?_
  refine J_getR (r := some 171) dX10_settle_68 fX10_53 s158 (fun _ => rfl) (g158_25 hG) ?_
  refine J_iload_n dX10_settle_71 rfl ?_
  refine J_iconstN (n := 0) dX10_settle_72 ?_
  refine J_iastN dX10_settle_73 s171 (by decide) (by omega) ?_
  refine J_aload_n dX10_settle_74 rfl ?_
  refine J_getR (r := some 172) dX10_settle_75 fX10_56 s158 (fun _ => rfl) ((xRI).trans (g158_26 hG)) ?_
  refine J_iload_n dX10_settle_78 rfl ?_
  refine J_iconstN (n := 0) dX10_settle_79 ?_
  refine J_iastN dX10_settle_80 s172 (by decide) (by omega) ?_
  refine J_iinc (y := nI 1) (L' := [some (pR (some 158)), some (pI (nI 1))]) dX10_settle_81 rfl (by decide) (by decide) rfl ?_
  refine J_goto dX10_settle_84 ?_
  refine J_iload_n dX10_settle_62 rfl ?_
  refine J_iconstN (n := 4) dX10_settle_63 ?_
  refine J_icmp_geN dX10_settle_64 (by decide) (by decide) (fun c0 => absurd c0 (by decide)) (fun c0 => ?_)
  refine J_aload_n dX10_settle_67 rfl ?_
  refine J_getR (r := some 171) dX10_settle_68 fX10_53 s158 (fun _ => rfl) ((xRI).trans ((xRI).trans (g158_25 hG))) ?_
  refine J_iload_n dX10_settle_71 rfl ?_
  refine J_iconstN (n := 0) dX10_settle_72 ?_
  refine J_iastN dX10_settle_73 s171 (by decide) (by omega) ?_
  refine J_aload_n dX10_settle_74 rfl ?_
  refine J_getR (r := some 172) dX10_settle_75 fX10_56 s158 (fun _ => rfl) ((xRI).trans ((xRI).trans ((xRI).trans (g158_26 hG)))) ?_
  refine J_iload_n dX10_settle_78 rfl ?_
  refine J_iconstN (n := 0) dX10_settle_79 ?_
  refine J_iastN dX10_settle_80 s172 (by decide) (by omega) ?_
  refine J_iinc (y := nI 2) (L' := [some (pR (some 158)), some (pI (nI 2))]) dX10_settle_81 rfl (by decide) (by decide) rfl ?_
  refine J_goto dX10_settle_84 ?_
  refine J_iload_n dX10_settle_62 rfl ?_
  refine J_iconstN (n := 4) dX10_settle_63 ?_
  refine J_icmp_geN dX10_settle_64 (by decide) (by decide) (fun c0 => absurd c0 (by decide)) (fun c0 => ?_)
  refine J_aload_n dX10_settle_67 rfl ?_
  refine J_getR (r := some 171) dX10_settle_68 fX10_53 s158 (fun _ => rfl) ((xRI).trans ((xRI).trans ((xRI).trans ((xRI).trans (g158_25 hG))))) ?_
  refine J_iload_n dX10_settle_71 rfl ?_
  refine J_iconstN (n := 0) dX10_settle_72 ?_
  refine J_iastN dX10_settle_73 s171 (by decide) (by omega) ?_
  refine J_aload_n dX10_settle_74 rfl ?_
  refine J_getR (r := some 172) dX10_settle_75 fX10_56 s158 (fun _ => rfl) ((xRI).trans ((xRI).trans ((xRI).trans ((xRI).trans ((xRI).trans (g158_26 hG)))))) ?_
  refine J_iload_n dX10_settle_78 rfl ?_
  refine J_iconstN (n := 0) dX10_settle_79 ?_
  refine J_iastN dX10_settle_80 s172 (by decide) (by omega) ?_
  refine J_iinc (y := nI 3) (L' := [some (pR (some 158)), some (pI (nI 3))]) dX10_settle_81 rfl (by decide) (by decide) rfl ?_
  refine J_goto dX10_settle_84 ?_
  refine J_iload_n dX10_settle_62 rfl ?_
  refine J_iconstN (n := 4) dX10_settle_63 ?_
  refine J_icmp_geN dX10_settle_64 (by decide) (by decide) (fun c0 => absurd c0 (by decide)) (fun c0 => ?_)
  refine J_aload_n dX10_settle_67 rfl ?_
  refine J_getR (r := some 171) dX10_settle_68 fX10_53 s158 (fun _ => rfl) ((xRI).trans ((xRI).trans ((xRI).trans ((xRI).trans ((xRI).trans ((xRI).trans (g158_25 hG))))))) ?_
  refine J_iload_n dX10_settle_71 rfl ?_
  refine J_iconstN (n := 0) dX10_settle_72 ?_
  refine J_iastN dX10_settle_73 s171 (by decide) (by omega) ?_
  refine J_aload_n dX10_settle_74 rfl ?_
  refine J_getR (r := some 172) dX10_settle_75 fX10_56 s158 (fun _ => rfl) ((xRI).trans ((xRI).trans ((xRI).trans ((xRI).trans ((xRI).trans ((xRI).trans ((xRI).trans (g158_26 hG)))))))) ?_
  refine J_iload_n dX10_settle_78 rfl ?_
  refine J_iconstN (n := 0) dX10_settle_79 ?_
  refine J_iastN dX10_settle_80 s172 (by decide) (by omega) ?_
  refine J_iinc (y := nI 4) (L' := [some (pR (some 158)), some (pI (nI 4))]) dX10_settle_81 rfl (by decide) (by decide) rfl ?_
  refine J_goto dX10_settle_84 ?_
  refine J_iload_n dX10_settle_62 rfl ?_
  refine J_iconstN (n := 4) dX10_settle_63 ?_
  refine J_icmp_geN dX10_settle_64 (by decide) (by decide) (fun c0 => ?_) (fun c0 => absurd c0 (by decide))
  refine J_iconstN (n := 0) dX10_settle_87 ?_
  refine J_istore_n (L' := [some (pR (some 158)), some (pI (nI 0))]) dX10_settle_88 (by decide) rfl ?_
  have hSg : Sg h g7 := ⟨fun a z1 z2 z3 z4 z5 z6 z7 => (e7.1 a z7).trans ((e6.1 a z6).trans ((e5.1 a z5).trans ((e4.1 a z4).trans ((e3.1 a z3).trans ((e2.1 a z2).trans (e1.1 a z1)))))), e7.2.1.trans (e6.2.1.trans (e5.2.1.trans (e4.2.1.trans (e3.2.1.trans (e2.2.1.trans (e1.2.1)))))), fun i hi => (congrFun (e7.1 160 (by decide)) i).trans ((congrFun (e6.1 160 (by decide)) i).trans ((congrFun (e5.1 160 (by decide)) i).trans ((congrFun (e4.1 160 (by decide)) i).trans ((congrFun (e3.1 160 (by decide)) i).trans ((congrFun (e2.1 160 (by decide)) i).trans ((e1.2.2.1 i hi).trans (rfl))))))), fun i hi => (congrFun (e7.1 164 (by decide)) i).trans ((congrFun (e6.1 164 (by decide)) i).trans ((congrFun (e5.1 164 (by decide)) i).trans ((congrFun (e4.1 164 (by decide)) i).trans ((congrFun (e3.1 164 (by decide)) i).trans ((e2.2.2.1 i hi).trans ((congrFun (e1.1 164 (by decide)) _).trans (rfl))))))), fun i hi => (congrFun (e7.1 165 (by decide)) i).trans ((congrFun (e6.1 165 (by decide)) i).trans ((congrFun (e5.1 165 (by decide)) i).trans ((congrFun (e4.1 165 (by decide)) i).trans ((e3.2.2.1 i hi).trans ((congrFun (e2.1 165 (by decide)) _).trans ((congrFun (e1.1 165 (by decide)) _).trans (rfl))))))), fun i hi => (congrFun (e7.1 166 (by decide)) i).trans ((congrFun (e6.1 166 (by decide)) i).trans ((congrFun (e5.1 166 (by decide)) i).trans ((e4.2.2.1 i hi).trans ((congrFun (e3.1 166 (by decide)) _).trans ((congrFun (e2.1 166 (by decide)) _).trans ((congrFun (e1.1 166 (by decide)) _).trans (rfl))))))), fun i hi => (congrFun (e7.1 168 (by decide)) i).trans ((congrFun (e6.1 168 (by decide)) i).trans ((e5.2.2.1 i hi).trans ((congrFun (e4.1 168 (by decide)) _).trans ((congrFun (e3.1 168 (by decide)) _).trans ((congrFun (e2.1 168 (by decide)) _).trans ((congrFun (e1.1 168 (by decide)) _).trans (rfl))))))), fun i hi => (congrFun (e7.1 169 (by decide)) i).trans ((e6.2.2.1 i hi).trans ((congrFun (e5.1 169 (by decide)) _).trans ((congrFun (e4.1 169 (by decide)) _).trans ((congrFun (e3.1 169 (by decide)) _).trans ((congrFun (e2.1 169 (by decide)) _).trans ((congrFun (e1.1 169 (by decide)) _).trans (rfl))))))), fun i hi => (e7.2.2.1 i hi).trans ((congrFun (e6.1 170 (by decide)) _).trans ((congrFun (e5.1 170 (by decide)) _).trans ((congrFun (e4.1 170 (by decide)) _).trans ((congrFun (e3.1 170 (by decide)) _).trans ((congrFun (e2.1 170 (by decide)) _).trans ((congrFun (e1.1 170 (by decide)) _).trans (rfl)))))))⟩
  have hG0 := hG
  refine J_L (L' := [some (pR (some 158)), some (pI (nI 0))]) rfl ?_
  refine J_forI (α := Unit) (L := fun i1 aa1 => [some (pR (some 158)), some (pI (nI i1))]) (fun i1 aa1 h1 => Zr i1 (sI (sI (sI (sI (sI (sI (sI (sI (g7) 171 0 (nI 0)) 172 0 (nI 0)) 171 1 (nI 0)) 172 1 (nI 0)) 171 2 (nI 0)) 172 2 (nI 0)) 171 3 (nI 0)) 172 3 (nI 0)) h1) (e := 32) (fun aa1 h1 hI1 => ?_) (fun i1 aa1 h1 hi1 hI1 ih1 => ?_) 0 (()) _ (by omega) (⟨fun _ _ => rfl, rfl, fun i hi => absurd hi (Nat.not_lt_zero i), fun _ _ => rfl⟩)
  · show J _ _ _ _ _ [some (pR (some 158)), some (pI (nI 32))] _ _ h1
    have hG : GR h1.2.2 := by rw [hI1.2.1]; exact hG0
    refine J_iload_n dX10_settle_89 rfl ?_
    refine J_bipush (x := nI 32) dX10_settle_90 (by decide) ?_
    refine J_icmp_geN dX10_settle_92 (by decide) (by decide) (fun c0 => ?_) (fun c0 => absurd c0 (by decide))
    refine J_iconstN (n := 0) dX10_settle_108 ?_
    refine J_istore_n (L' := [some (pR (some 158)), some (pI (nI 0))]) dX10_settle_109 (by decide) rfl ?_
    refine J_iload_n dX10_settle_110 rfl ?_
    refine J_iconstN (n := 3) dX10_settle_111 ?_
    refine J_icmp_geN dX10_settle_112 (by decide) (by decide) (fun c0 => absurd c0 (by decide)) (fun c0 => ?_)
    refine J_aload_n dX10_settle_115 rfl ?_
    refine J_getR (r := some 186) dX10_settle_116 fX10_101 s158 (fun _ => rfl) (g158_50 hG) ?_
    refine J_iload_n dX10_settle_119 rfl ?_
    refine J_iconstN (n := 0) dX10_settle_120 ?_
    refine J_zastN dX10_settle_121 s186 (by decide) (by omega) ?_
    refine J_iinc (y := nI 1) (L' := [some (pR (some 158)), some (pI (nI 1))]) dX10_settle_122 rfl (by decide) (by decide) rfl ?_
    refine J_goto dX10_settle_125 ?_
    refine J_iload_n dX10_settle_110 rfl ?_
    refine J_iconstN (n := 3) dX10_settle_111 ?_
    refine J_icmp_geN dX10_settle_112 (by decide) (by decide) (fun c0 => absurd c0 (by decide)) (fun c0 => ?_)
    refine J_aload_n dX10_settle_115 rfl ?_
    refine J_getR (r := some 186) dX10_settle_116 fX10_101 s158 (fun _ => rfl) ((xRI).trans (g158_50 hG)) ?_
    refine J_iload_n dX10_settle_119 rfl ?_
    refine J_iconstN (n := 0) dX10_settle_120 ?_
    refine J_zastN dX10_settle_121 s186 (by decide) (by omega) ?_
    refine J_iinc (y := nI 2) (L' := [some (pR (some 158)), some (pI (nI 2))]) dX10_settle_122 rfl (by decide) (by decide) rfl ?_
    refine J_goto dX10_settle_125 ?_
    refine J_iload_n dX10_settle_110 rfl ?_
    refine J_iconstN (n := 3) dX10_settle_111 ?_
    refine J_icmp_geN dX10_settle_112 (by decide) (by decide) (fun c0 => absurd c0 (by decide)) (fun c0 => ?_)
    refine J_aload_n dX10_settle_115 rfl ?_
    refine J_getR (r := some 186) dX10_settle_116 fX10_101 s158 (fun _ => rfl) ((xRI).trans ((xRI).trans (g158_50 hG))) ?_
    refine J_iload_n dX10_settle_119 rfl ?_
    refine J_iconstN (n := 0) dX10_settle_120 ?_
    refine J_zastN dX10_settle_121 s186 (by decide) (by omega) ?_
    refine J_iinc (y := nI 3) (L' := [some (pR (some 158)), some (pI (nI 3))]) dX10_settle_122 rfl (by decide) (by decide) rfl ?_
    refine J_goto dX10_settle_125 ?_
    refine J_iload_n dX10_settle_110 rfl ?_
    refine J_iconstN (n := 3) dX10_settle_111 ?_
    refine J_icmp_geN dX10_settle_112 (by decide) (by decide) (fun c0 => ?_) (fun c0 => absurd c0 (by decide))
    refine J_aload_n dX10_settle_128 rfl ?_
    refine J_iconstN (n := 0) dX10_settle_129 ?_
    refine J_putI dX10_settle_130 fX10_189 s158 rfl rfl rfl (fun _ _ => rfl) ?_
    exact J_retV dX10_settle_133 rfl ⟨g7, h1, hSg, hI1, rfl⟩
  · show J _ _ _ _ _ [some (pR (some 158)), some (pI (nI i1))] _ _ h1
    have hG : GR h1.2.2 := by rw [hI1.2.1]; exact hG0
    refine J_iload_n dX10_settle_89 rfl ?_
    refine J_bipush (x := nI 32) dX10_settle_90 (by decide) ?_
    refine J_icmp_geN dX10_settle_92 (by omega) (by omega) (fun c1 => ?_) (fun c1 => ?_)
    · exact (show False by omega).elim
    · refine J_aload_n dX10_settle_95 rfl ?_
      refine J_getR (r := some 184) dX10_settle_96 fX10_95 s158 (fun _ => rfl) (g158_48 hG) ?_
      refine J_iload_n dX10_settle_99 rfl ?_
      refine J_iconstN (n := 0) dX10_settle_100 ?_
      refine J_iastN dX10_settle_101 s184 (by decide) (by omega) ?_
      refine J_iincN (n := 1) (L' := [some (pR (some 158)), some (pI (nI (i1 + 1)))]) dX10_settle_102 rfl (by decide) rfl ?_
      refine J_goto dX10_settle_105 ?_
      exact ih1 () _ hI1.n
