/-! ===== instead: the class ===== -/
theorem PBf_at {X Y : QP} {br s o i j : Nat} {w : Int64} {V : Nat → Int64} (ho : o < 21) (hj : j < 4) : PBf X Y br w V (s * 21 + o) (4 * i + j) = lN (X.2.2.2 i * Y.2.2.2 j) * (pG X Y br s o i j * w + V (pN X Y s o i j)) := by
  unfold PBf pc pGm pNm
  rw [(d21 ho).1, (d21 ho).2, (d4 hj).1, (d4 hj).2]
theorem tenL_2 {n : Nat} : tenL (2 * n) * 100 = tenL (2 * (n + 1)) := by
  rw [show 2 * (n + 1) = 2 * n + 1 + 1 by omega]
  show _ = tenL (2 * n) * 10 * 10
  grind
theorem c_X3_giveInstead {h : PH} {tb x l m rk rl : Nat} (hG : GR h.2.2) (htb : IsTh tb) (h8 : h.1 tb 8 = nI rk) (h9 : h.1 tb 9 = nI rl) (b8 : rk < 1000) (b9 : rl < 1000) (w2 : h.1 101 2 = nI l) (w3 : h.1 101 3 = nI m) (w0 : h.1 102 0 = nI x) (bl : l < 1000) (bm : m < 1000) (bx : x < 1000) : CtI mX3_giveInstead h [pR (some 98), pR (some tb)] (fun v h' => v = nI (min l (spN rk rl x) + min m (spN rk rl x - min l (spN rk rl x))) ∧ h' = sI (sI h 101 2 (nI (l - min l (spN rk rl x)))) 102 0 (nI (x - (min l (spN rk rl x) + min m (spN rk rl x - min l (spN rk rl x)))))) := by
  have hsp := spN_le rk rl x
  refine Ct.of (L := [some (pR (some 98)), some (pR (some tb)), none, none, none]) rfl rfl (Nat.le_of_ble_eq_true rfl) rfl ?_
  refine J_aload_n dX3_giveInstead_0 rfl ?_
  refine J_aload_n dX3_giveInstead_1 rfl ?_
  refine J_getR (r := some 102) dX3_giveInstead_2 fX3_25 s98 (fun _ => rfl) (g98_3 hG) ?_
  refine J_getI dX3_giveInstead_5 fX3_111 s102 (fun _ => rfl) ?_
  refine J_cvI (w0) ?_
  refine J_cVI (ci := 7) (c := tb) (as := [pI (nI x)]) (st := []) dX3_giveInstead_8 lX3_114 okX7_spareOf vX7_spareOf htb.s (by decide) rfl rfl rfl (Nat.le_of_ble_eq_true rfl) ⟨Nat.le_of_ble_eq_true rfl, Nat.le_of_ble_eq_true rfl⟩ CR.f (c_X7_spareOf htb h8 h9 b8 b9 (by omega)) (fun vq1 gq1 eq1 => ?_)
  obtain ⟨rfl, fq1⟩ := eq1
  rw [fq1]
  refine J_istore_n (L' := [some (pR (some 98)), some (pR (some tb)), some (pI (nI (spN rk rl x))), none, none]) dX3_giveInstead_11 (by decide) rfl ?_
  refine J_aload_n dX3_giveInstead_12 rfl ?_
  refine J_getR (r := some 101) dX3_giveInstead_13 fX3_21 s98 (fun _ => rfl) (g98_2 hG) ?_
  refine J_getI dX3_giveInstead_16 fX3_105 s101 (fun _ => rfl) ?_
  refine J_cvI (w2) ?_
  refine J_iload_n dX3_giveInstead_19 rfl ?_
  refine J_min dX3_giveInstead_20 lmX3_118 w_min_s w_min_i w_min_c (by decide) (Nat.le_of_ble_eq_true rfl) CR.f ?_
  refine J_cvI (nI_min (by omega) (by omega)) ?_
  refine J_istore_n (L' := [some (pR (some 98)), some (pR (some tb)), some (pI (nI (spN rk rl x))), some (pI (nI (min l (spN rk rl x)))), none]) dX3_giveInstead_23 (by decide) rfl ?_
  refine J_aload_n dX3_giveInstead_24 rfl ?_
  refine J_getR (r := some 101) dX3_giveInstead_25 fX3_21 s98 (fun _ => rfl) (g98_2 hG) ?_
  refine J_getI dX3_giveInstead_28 fX3_124 s101 (fun _ => rfl) ?_
  refine J_cvI (w3) ?_
  refine J_iload_n dX3_giveInstead_31 rfl ?_
  refine J_iload_n dX3_giveInstead_32 rfl ?_
  refine J_isubN dX3_giveInstead_33 (by omega) ?_
  refine J_min dX3_giveInstead_34 lmX3_118 w_min_s w_min_i w_min_c (by decide) (Nat.le_of_ble_eq_true rfl) CR.f ?_
  refine J_cvI (nI_min (by omega) (by omega)) ?_
  refine J_istore (L' := [some (pR (some 98)), some (pR (some tb)), some (pI (nI (spN rk rl x))), some (pI (nI (min l (spN rk rl x)))), some (pI (nI (min m (spN rk rl x - min l (spN rk rl x)))))]) dX3_giveInstead_37 (by decide) rfl ?_
  refine J_aload_n dX3_giveInstead_39 rfl ?_
  refine J_getR (r := some 101) dX3_giveInstead_40 fX3_21 s98 (fun _ => rfl) (g98_2 hG) ?_
  refine J_dup dX3_giveInstead_43 rfl ?_
  refine J_getI dX3_giveInstead_44 fX3_105 s101 (fun _ => rfl) ?_
  refine J_cvI (w2) ?_
  refine J_iload_n dX3_giveInstead_47 rfl ?_
  refine J_isubN dX3_giveInstead_48 (by omega) ?_
  refine J_putI dX3_giveInstead_49 fX3_105 s101 rfl (vp_nar_int _) rfl (fun _ _ => rfl) ?_
  refine J_aload_n dX3_giveInstead_52 rfl ?_
  refine J_getR (r := some 102) dX3_giveInstead_53 fX3_25 s98 (fun _ => rfl) ((xRI).trans (g98_3 hG)) ?_
  refine J_dup dX3_giveInstead_56 rfl ?_
  refine J_getI dX3_giveInstead_57 fX3_111 s102 (fun _ => rfl) ?_
  refine J_cvI ((rI_c (by decide)).trans (w0)) ?_
  refine J_iload_n dX3_giveInstead_60 rfl ?_
  refine J_iload dX3_giveInstead_61 rfl ?_
  refine J_iaddN dX3_giveInstead_63 ?_
  refine J_isubN dX3_giveInstead_64 (by omega) ?_
  refine J_putI dX3_giveInstead_65 fX3_111 s102 rfl (vp_nar_int _) rfl (fun _ _ => rfl) ?_
  refine J_iload_n dX3_giveInstead_68 rfl ?_
  refine J_iload dX3_giveInstead_69 rfl ?_
  refine J_iaddN dX3_giveInstead_71 ?_
  exact J_retI dX3_giveInstead_72 rfl ⟨rfl, rfl⟩
theorem c_X3_valueOfWeek {h : PH} {ta tb ra g l m rb g' l' pay lk so pt pay' lk' so' rk rl : Nat} {ways : Int64} (hG : GR h.2.2) (hta : IsTh ta) (htb : IsTh tb) (h8 : h.1 tb 8 = nI rk) (h9 : h.1 tb 9 = nI rl) (b8 : rk < 1000) (b9 : rl < 1000) (a2 : h.1 ta 2 = nI pay) (a3 : h.1 ta 3 = nI lk) (a5 : h.1 ta 5 = nI so) (a7 : h.1 ta 7 = nI pt) (c2 : h.1 tb 2 = nI pay') (c3 : h.1 tb 3 = nI lk') (c5 : h.1 tb 5 = nI so') (v0 : h.1 101 0 = nI ra) (v1 : h.1 101 1 = nI g) (v2 : h.1 101 2 = nI l) (v3 : h.1 101 3 = nI m) (w0 : h.1 102 0 = nI rb) (w1 : h.1 102 1 = nI g') (w2 : h.1 102 2 = nI l') (hw : h.2.1 98 4 = ways) (b1 : pay ≤ 99) (b2 : lk ≤ 500) (b3 : so < 1000) (b4 : pt ≤ 100) (b5 : pay' ≤ 99) (b6 : lk' ≤ 500) (b7 : so' < 1000) (d0 : ra ≤ 20) (d1 : g ≤ 3) (d2 : l ≤ 3) (d3 : m ≤ 3) (d4 : rb ≤ 20) (d5 : g' ≤ 3) (d6 : l' ≤ 3) : CtL mX3_valueOfWeek h [pR (some 98), pR (some ta), pR (some tb)] (fun v h' => v = (lN (pay * g) - lN (lk * (l - min l (spN rk rl rb))) + lN (pay' * g') - lN (lk' * l') + lN ((min l (spN rk rl rb) + min m (spN rk rl rb - min l (spN rk rl rb))) * (pay * pt / 100))) * ways + h.2.1 99 ((ra - slN so ra) * 21 + ((rb - (min l (spN rk rl rb) + min m (spN rk rl rb - min l (spN rk rl rb)))) - slN so' (rb - (min l (spN rk rl rb) + min m (spN rk rl rb - min l (spN rk rl rb)))))) ∧ Fr 101 102 h h') := by
  have bta := hta.lt
  have btb := htb.lt
  refine Ct.of (L := [some (pR (some 98)), some (pR (some ta)), some (pR (some tb)), none, none, none]) rfl rfl (Nat.le_of_ble_eq_true rfl) rfl ?_
  refine J_aload_n dX3_valueOfWeek_0 rfl ?_
  refine J_aload_n dX3_valueOfWeek_1 rfl ?_
  refine J_cVI (ci := 3) (c := 98) (as := [pR (some tb)]) (st := []) dX3_valueOfWeek_2 lX3_88 okX3_giveInstead vX3_giveInstead s98 (by decide) rfl rfl rfl (Nat.le_of_ble_eq_true rfl) ⟨Nat.le_of_ble_eq_true rfl, Nat.le_of_ble_eq_true rfl⟩ CR.f (c_X3_giveInstead hG htb h8 h9 b8 b9 v2 v3 w0 (by omega) (by omega) (by omega)) (fun v1 g1 e1 => ?_)
  obtain ⟨rfl, e1⟩ := e1
  have hsp := spN_le rk rl rb
  have f1 : Fr 101 102 h g1 := by rw [e1]; exact (Fr.sI (by decide) (by decide)).tr (Fr.sI (by decide) (by decide))
  have hG := f1.g hG
  have k0 : g1.1 101 0 = h.1 101 0 := by rw [e1]; exact (rI_c (by decide)).trans (rI_k (by decide))
  have k1 : g1.1 101 1 = nI g := by rw [e1]; exact (rI_c (by decide)).trans ((rI_k (by decide)).trans v1)
  have k2 : g1.1 101 2 = nI (l - min l (spN rk rl rb)) := by rw [e1]; exact (rI_c (by decide)).trans rI_s
  have n0 : g1.1 102 0 = nI (rb - (min l (spN rk rl rb) + min m (spN rk rl rb - min l (spN rk rl rb)))) := by rw [e1]; exact rI_s
  have n1 : g1.1 102 1 = nI g' := by rw [e1]; exact (rI_k (by decide)).trans ((rI_c (by decide)).trans w1)
  have n2 : g1.1 102 2 = nI l' := by rw [e1]; exact (rI_k (by decide)).trans ((rI_c (by decide)).trans w2)
  refine J_istore_n (L' := [some (pR (some 98)), some (pR (some ta)), some (pR (some tb)), some (pI (nI (min l (spN rk rl rb) + min m (spN rk rl rb - min l (spN rk rl rb))))), none, none]) dX3_valueOfWeek_5 (by decide) rfl ?_
  refine J_aload_n dX3_valueOfWeek_6 rfl ?_
  refine J_getR (r := some 101) dX3_valueOfWeek_7 fX3_21 s98 (fun _ => rfl) (g98_2 hG) ?_
  refine J_aload_n dX3_valueOfWeek_10 rfl ?_
  refine J_cVV (ci := 8) (c := 101) (as := [pR (some ta)]) (st := []) dX3_valueOfWeek_11 lX3_92 okX8_letSpoil vX8_letSpoil s101 (by decide) rfl rfl rfl (Nat.le_of_ble_eq_true rfl) ⟨Nat.le_of_ble_eq_true rfl, Nat.le_of_ble_eq_true rfl⟩ CR.f (c_X8_letSpoil (by unfold IsWk; omega) hta ((f1.i (by omega)).trans a5) (k0.trans v0) b3 (by omega)) (fun g2 e2 => ?_)
  obtain ⟨⟨x4, x0, xo⟩, f2, l2⟩ := wk5 e2
  have hG := f2.g hG
  refine J_aload_n dX3_valueOfWeek_14 rfl ?_
  refine J_getR (r := some 102) dX3_valueOfWeek_15 fX3_25 s98 (fun _ => rfl) (g98_3 hG) ?_
  refine J_aload_n dX3_valueOfWeek_18 rfl ?_
  refine J_cVV (ci := 8) (c := 102) (as := [pR (some tb)]) (st := []) dX3_valueOfWeek_19 lX3_92 okX8_letSpoil vX8_letSpoil s102 (by decide) rfl rfl rfl (Nat.le_of_ble_eq_true rfl) ⟨Nat.le_of_ble_eq_true rfl, Nat.le_of_ble_eq_true rfl⟩ CR.f (c_X8_letSpoil (by unfold IsWk; omega) htb ((f2.i (by omega)).trans ((f1.i (by omega)).trans c5)) ((f2.i (by decide)).trans n0) b7 (by omega)) (fun g3 e3 => ?_)
  obtain ⟨⟨y4, y0, yo⟩, f3, l3⟩ := wk5 e3
  have hG := f3.g hG
  have hl1 := sl_le so ra
  have hl2 := sl_le so' (rb - (min l (spN rk rl rb) + min m (spN rk rl rb - min l (spN rk rl rb))))
  have hpp : pay * pt ≤ 99 * 100 := Nat.mul_le_mul b1 b4
  have m1 : pay * g ≤ 99 * 3 := Nat.mul_le_mul b1 d1
  have m2 : lk * (l - min l (spN rk rl rb)) ≤ 500 * 3 := Nat.mul_le_mul b2 (by omega)
  have m3 : pay' * g' ≤ 99 * 3 := Nat.mul_le_mul b5 d5
  have m4 : lk' * l' ≤ 500 * 3 := Nat.mul_le_mul b6 d6
  have m5 : (min l (spN rk rl rb) + min m (spN rk rl rb - min l (spN rk rl rb))) * (pay * pt / 100) ≤ 6 * 99 := Nat.mul_le_mul (by omega) (by omega)
  refine J_aload_n dX3_valueOfWeek_22 rfl ?_
  refine J_getI dX3_valueOfWeek_23 fX3_96 hta.s (fun _ => rfl) ?_
  refine J_cvI (((f3.i (by omega)).trans ((f2.i (by omega)).trans ((f1.i (by omega)).trans a2)))) ?_
  refine J_aload_n dX3_valueOfWeek_26 rfl ?_
  refine J_getR (r := some 101) dX3_valueOfWeek_27 fX3_21 s98 (fun _ => rfl) (g98_2 hG) ?_
  refine J_getI dX3_valueOfWeek_30 fX3_99 s101 (fun _ => rfl) ?_
  refine J_cvI (((f3.i (by decide)).trans ((xo 1 (by decide) (by decide)).trans k1))) ?_
  refine J_imulN dX3_valueOfWeek_33 ?_
  refine J_aload_n dX3_valueOfWeek_34 rfl ?_
  refine J_getI dX3_valueOfWeek_35 fX3_102 hta.s (fun _ => rfl) ?_
  refine J_cvI (((f3.i (by omega)).trans ((f2.i (by omega)).trans ((f1.i (by omega)).trans a3)))) ?_
  refine J_aload_n dX3_valueOfWeek_38 rfl ?_
  refine J_getR (r := some 101) dX3_valueOfWeek_39 fX3_21 s98 (fun _ => rfl) (g98_2 hG) ?_
  refine J_getI dX3_valueOfWeek_42 fX3_105 s101 (fun _ => rfl) ?_
  refine J_cvI (((f3.i (by decide)).trans ((xo 2 (by decide) (by decide)).trans k2))) ?_
  refine J_imulN dX3_valueOfWeek_45 ?_
  refine J_isub dX3_valueOfWeek_46 ?_
  refine J_aload_n dX3_valueOfWeek_47 rfl ?_
  refine J_getI dX3_valueOfWeek_48 fX3_96 htb.s (fun _ => rfl) ?_
  refine J_cvI (((f3.i (by omega)).trans ((f2.i (by omega)).trans ((f1.i (by omega)).trans c2)))) ?_
  refine J_aload_n dX3_valueOfWeek_51 rfl ?_
  refine J_getR (r := some 102) dX3_valueOfWeek_52 fX3_25 s98 (fun _ => rfl) (g98_3 hG) ?_
  refine J_getI dX3_valueOfWeek_55 fX3_99 s102 (fun _ => rfl) ?_
  refine J_cvI (((yo 1 (by decide) (by decide)).trans ((f2.i (by decide)).trans n1))) ?_
  refine J_imulN dX3_valueOfWeek_58 ?_
  refine J_iadd dX3_valueOfWeek_59 ?_
  refine J_aload_n dX3_valueOfWeek_60 rfl ?_
  refine J_getI dX3_valueOfWeek_61 fX3_102 htb.s (fun _ => rfl) ?_
  refine J_cvI (((f3.i (by omega)).trans ((f2.i (by omega)).trans ((f1.i (by omega)).trans c3)))) ?_
  refine J_aload_n dX3_valueOfWeek_64 rfl ?_
  refine J_getR (r := some 102) dX3_valueOfWeek_65 fX3_25 s98 (fun _ => rfl) (g98_3 hG) ?_
  refine J_getI dX3_valueOfWeek_68 fX3_105 s102 (fun _ => rfl) ?_
  refine J_cvI (((yo 2 (by decide) (by decide)).trans ((f2.i (by decide)).trans n2))) ?_
  refine J_imulN dX3_valueOfWeek_71 ?_
  refine J_isub dX3_valueOfWeek_72 ?_
  refine J_iload_n dX3_valueOfWeek_73 rfl ?_
  refine J_aload_n dX3_valueOfWeek_74 rfl ?_
  refine J_getI dX3_valueOfWeek_75 fX3_96 hta.s (fun _ => rfl) ?_
  refine J_cvI (((f3.i (by omega)).trans ((f2.i (by omega)).trans ((f1.i (by omega)).trans a2)))) ?_
  refine J_aload_n dX3_valueOfWeek_78 rfl ?_
  refine J_getI dX3_valueOfWeek_79 fX3_108 hta.s (fun _ => rfl) ?_
  refine J_cvI (((f3.i (by omega)).trans ((f2.i (by omega)).trans ((f1.i (by omega)).trans a7)))) ?_
  refine J_imulN dX3_valueOfWeek_82 ?_
  refine J_bipush (x := nI 100) dX3_valueOfWeek_83 (by decide) ?_
  refine J_idivN dX3_valueOfWeek_85 (by omega) (by omega) (by omega) ?_
  refine J_imulN dX3_valueOfWeek_86 ?_
  refine J_iadd dX3_valueOfWeek_87 ?_
  refine J_i2l dX3_valueOfWeek_88 ?_
  refine J_cvL (y := lN (pay * g) - lN (lk * (l - min l (spN rk rl rb))) + lN (pay' * g') - lN (lk' * l') + lN ((min l (spN rk rl rb) + min m (spN rk rl rb - min l (spN rk rl rb))) * (pay * pt / 100))) (i2l5 (by omega) (by omega) (by omega) (by omega) (by omega)) ?_
  refine J_lstore (L' := [some (pR (some 98)), some (pR (some ta)), some (pR (some tb)), some (pI (nI (min l (spN rk rl rb) + min m (spN rk rl rb - min l (spN rk rl rb))))), some (pL (lN (pay * g) - lN (lk * (l - min l (spN rk rl rb))) + lN (pay' * g') - lN (lk' * l') + lN ((min l (spN rk rl rb) + min m (spN rk rl rb - min l (spN rk rl rb))) * (pay * pt / 100)))), none]) dX3_valueOfWeek_89 (by decide) rfl ?_
  refine J_lload dX3_valueOfWeek_91 rfl ?_
  refine J_aload_n dX3_valueOfWeek_93 rfl ?_
  refine J_getL dX3_valueOfWeek_94 fX3_60 s98 (fun _ => rfl) ?_
  refine J_cvL (((f3.l (by decide)).trans ((f2.l (by decide)).trans ((f1.l (by decide)).trans hw)))) ?_
  refine J_lmul dX3_valueOfWeek_97 ?_
  refine J_aload_n dX3_valueOfWeek_98 rfl ?_
  refine J_getR (r := some 99) dX3_valueOfWeek_99 fX3_11 s98 (fun _ => rfl) (g98_0 hG) ?_
  refine J_aload_n dX3_valueOfWeek_102 rfl ?_
  refine J_getR (r := some 101) dX3_valueOfWeek_103 fX3_21 s98 (fun _ => rfl) (g98_2 hG) ?_
  refine J_getI dX3_valueOfWeek_106 fX3_111 s101 (fun _ => rfl) ?_
  refine J_cvI (((f3.i (by decide)).trans x0)) ?_
  refine J_bipush (x := nI 21) dX3_valueOfWeek_109 (by decide) ?_
  refine J_imulN dX3_valueOfWeek_111 ?_
  refine J_aload_n dX3_valueOfWeek_112 rfl ?_
  refine J_getR (r := some 102) dX3_valueOfWeek_113 fX3_25 s98 (fun _ => rfl) (g98_3 hG) ?_
  refine J_getI dX3_valueOfWeek_116 fX3_111 s102 (fun _ => rfl) ?_
  refine J_cvI (y0) ?_
  refine J_iaddN dX3_valueOfWeek_119 ?_
  refine J_laldN dX3_valueOfWeek_120 s99 (by decide) (by omega) ?_
  refine J_ladd dX3_valueOfWeek_121 ?_
  exact J_retL dX3_valueOfWeek_122 rfl ⟨congrArg (fun z => (lN (pay * g) - lN (lk * (l - min l (spN rk rl rb))) + lN (pay' * g') - lN (lk' * l') + lN ((min l (spN rk rl rb) + min m (spN rk rl rb - min l (spN rk rl rb))) * (pay * pt / 100))) * ways + z) (show g3.2.1 99 _ = h.2.1 99 _ from (f3.l (by decide)).trans ((f2.l (by decide)).trans (f1.l (by decide)))), (f1.tr (f2.mo (by decide) (by decide))).tr (f3.mo (by decide) (by decide))⟩
theorem c_X3_valueBefore {h0 : PH} {ta tb w s o pt rka rla rkb rlb : Nat} {a b u v : Nat → Nat} {ways : Int64} (hG0 : GR h0.2.2) (hta : IsTh ta) (htb : IsTh tb) (hw : w < 4) (hA : TA h0 ta a rka rla) (hB : TA h0 tb b rkb rlb) (hp : h0.1 ta 7 = nI pt) (hUa : WA h0 (ta + 2 + w) u) (hUb : WA h0 (tb + 2 + w) v) (hways : h0.2.1 98 4 = ways) (a2 : a 2 ≤ 99) (a3 : a 3 ≤ 500) (z2 : b 2 ≤ 99) (z3 : b 3 ≤ 500) (bp : pt ≤ 100) (bs : s ≤ 20) (bo : o ≤ 20) : CtL mX3_valueBefore h0 [pR (some 98), pR (some ta), pR (some tb), pI (nI w), pI (nI s), pI (nI o)] (fun v' h' => v' = PBk (a, rka, rla, u) (b, rkb, rlb, v) (a 2 * pt / 100) ways (h0.2.1 99) (s * 21 + o) ∧ Fr 101 102 h0 h') := by
  have bta := hta.lt
  have btb := htb.lt
  have hG := hG0
  refine Ct.of (L := [some (pR (some 98)), some (pR (some ta)), some (pR (some tb)), some (pI (nI w)), some (pI (nI s)), some (pI (nI o)), none, none, none, none, none, none, none]) rfl rfl (Nat.le_of_ble_eq_true rfl) rfl ?_
  refine J_aload_n dX3_valueBefore_0 rfl ?_
  refine J_getR (r := some (ta + 1)) dX3_valueBefore_1 fX3_76 hta.s (fun _ => rfl) (hta.e10 hG) ?_
  refine J_iload_n dX3_valueBefore_4 rfl ?_
  refine J_aald7N (r := some (ta + 2 + w)) dX3_valueBefore_5 hta.s1 (by decide) (by omega) (hta.ew hG (by omega)) ?_
  refine J_astore (L' := [some (pR (some 98)), some (pR (some ta)), some (pR (some tb)), some (pI (nI w)), some (pI (nI s)), some (pI (nI o)), some (pR (some (ta + 2 + w))), none, none, none, none, none, none]) dX3_valueBefore_6 (by decide) rfl ?_
  refine J_aload_n dX3_valueBefore_8 rfl ?_
  refine J_getR (r := some (tb + 1)) dX3_valueBefore_9 fX3_76 htb.s (fun _ => rfl) (htb.e10 hG) ?_
  refine J_iload_n dX3_valueBefore_12 rfl ?_
  refine J_aald7N (r := some (tb + 2 + w)) dX3_valueBefore_13 htb.s1 (by decide) (by omega) (htb.ew hG (by omega)) ?_
  refine J_astore (L' := [some (pR (some 98)), some (pR (some ta)), some (pR (some tb)), some (pI (nI w)), some (pI (nI s)), some (pI (nI o)), some (pR (some (ta + 2 + w))), some (pR (some (tb + 2 + w))), none, none, none, none, none]) dX3_valueBefore_14 (by decide) rfl ?_
  refine J_lconst (x := 0) dX3_valueBefore_16 rfl ?_
  refine J_lstore (L' := [some (pR (some 98)), some (pR (some ta)), some (pR (some tb)), some (pI (nI w)), some (pI (nI s)), some (pI (nI o)), some (pR (some (ta + 2 + w))), some (pR (some (tb + 2 + w))), some (pL 0), none, none, none, none]) dX3_valueBefore_17 (by decide) rfl ?_
  refine J_iconstN (n := 0) dX3_valueBefore_19 ?_
  refine J_istore (L' := [some (pR (some 98)), some (pR (some ta)), some (pR (some tb)), some (pI (nI w)), some (pI (nI s)), some (pI (nI o)), some (pR (some (ta + 2 + w))), some (pR (some (tb + 2 + w))), some (pL 0), none, some (pI (nI 0)), none, none]) dX3_valueBefore_20 (by decide) rfl ?_
  refine J_L (L' := [some (pR (some 98)), some (pR (some ta)), some (pR (some tb)), some (pI (nI w)), some (pI (nI s)), some (pI (nI o)), some (pR (some (ta + 2 + w))), some (pR (some (tb + 2 + w))), some (pL (sL64 (PBf (a, rka, rla, u) (b, rkb, rlb, v) (a 2 * pt / 100) ways (h0.2.1 99) (s * 21 + o)) (4 * 0))), none, some (pI (nI 0)), none, none]) rfl ?_
  refine J_forI (α := Unit) (L := fun i1 aa1 => [some (pR (some 98)), some (pR (some ta)), some (pR (some tb)), some (pI (nI w)), some (pI (nI s)), some (pI (nI o)), some (pR (some (ta + 2 + w))), some (pR (some (tb + 2 + w))), some (pL (sL64 (PBf (a, rka, rla, u) (b, rkb, rlb, v) (a 2 * pt / 100) ways (h0.2.1 99) (s * 21 + o)) (4 * i1))), none, some (pI (nI i1)), none, none]) (fun i1 aa1 h1 => Fr 101 102 h0 h1) (e := 4) (fun aa1 h1 hI1 => ?_) (fun i1 aa1 h1 hi1 hI1 ih1 => ?_) 0 (()) _ (by omega) (Fr.rf)
  · show J _ _ _ _ _ [some (pR (some 98)), some (pR (some ta)), some (pR (some tb)), some (pI (nI w)), some (pI (nI s)), some (pI (nI o)), some (pR (some (ta + 2 + w))), some (pR (some (tb + 2 + w))), some (pL (sL64 (PBf (a, rka, rla, u) (b, rkb, rlb, v) (a 2 * pt / 100) ways (h0.2.1 99) (s * 21 + o)) (4 * 4))), none, some (pI (nI 4)), none, none] _ _ h1
    have hG := hI1.g hG0
    refine J_iload dX3_valueBefore_22 rfl ?_
    refine J_iconstN (n := 4) dX3_valueBefore_24 ?_
    refine J_icmp_geN dX3_valueBefore_25 (by decide) (by decide) (fun c0 => ?_) (fun c0 => absurd c0 (by decide))
    refine J_lload dX3_valueBefore_114 rfl ?_
    exact J_retL dX3_valueBefore_116 rfl ⟨rfl, hI1⟩
  · show J _ _ _ _ _ [some (pR (some 98)), some (pR (some ta)), some (pR (some tb)), some (pI (nI w)), some (pI (nI s)), some (pI (nI o)), some (pR (some (ta + 2 + w))), some (pR (some (tb + 2 + w))), some (pL (sL64 (PBf (a, rka, rla, u) (b, rkb, rlb, v) (a 2 * pt / 100) ways (h0.2.1 99) (s * 21 + o)) (4 * i1))), none, some (pI (nI i1)), none, none] _ _ h1
    have hG := hI1.g hG0
    refine J_iload dX3_valueBefore_22 rfl ?_
    refine J_iconstN (n := 4) dX3_valueBefore_24 ?_
    refine J_icmp_geN dX3_valueBefore_25 (by omega) (by omega) (fun c1 => ?_) (fun c1 => ?_)
    · exact (show False by omega).elim
    · refine J_iconstN (n := 0) dX3_valueBefore_28 ?_
      refine J_istore (L' := [some (pR (some 98)), some (pR (some ta)), some (pR (some tb)), some (pI (nI w)), some (pI (nI s)), some (pI (nI o)), some (pR (some (ta + 2 + w))), some (pR (some (tb + 2 + w))), some (pL (sL64 (PBf (a, rka, rla, u) (b, rkb, rlb, v) (a 2 * pt / 100) ways (h0.2.1 99) (s * 21 + o)) (4 * i1))), none, some (pI (nI i1)), some (pI (nI 0)), none]) dX3_valueBefore_29 (by decide) rfl ?_
      refine J_L (L' := [some (pR (some 98)), some (pR (some ta)), some (pR (some tb)), some (pI (nI w)), some (pI (nI s)), some (pI (nI o)), some (pR (some (ta + 2 + w))), some (pR (some (tb + 2 + w))), some (pL (sL64 (PBf (a, rka, rla, u) (b, rkb, rlb, v) (a 2 * pt / 100) ways (h0.2.1 99) (s * 21 + o)) (4 * i1 + 0))), none, some (pI (nI i1)), some (pI (nI 0)), none]) rfl ?_
      refine J_forI (α := Unit) (L := fun i22 aa22 => [some (pR (some 98)), some (pR (some ta)), some (pR (some tb)), some (pI (nI w)), some (pI (nI s)), some (pI (nI o)), some (pR (some (ta + 2 + w))), some (pR (some (tb + 2 + w))), some (pL (sL64 (PBf (a, rka, rla, u) (b, rkb, rlb, v) (a 2 * pt / 100) ways (h0.2.1 99) (s * 21 + o)) (4 * i1 + i22))), none, some (pI (nI i1)), some (pI (nI i22)), none]) (fun i22 aa22 h22 => Fr 101 102 h0 h22) (e := 4) (fun aa22 h22 hI22 => ?_) (fun i22 aa22 h22 hi22 hI22 ih22 => ?_) 0 (()) _ (by omega) (hI1)
      · show J _ _ _ _ _ [some (pR (some 98)), some (pR (some ta)), some (pR (some tb)), some (pI (nI w)), some (pI (nI s)), some (pI (nI o)), some (pR (some (ta + 2 + w))), some (pR (some (tb + 2 + w))), some (pL (sL64 (PBf (a, rka, rla, u) (b, rkb, rlb, v) (a 2 * pt / 100) ways (h0.2.1 99) (s * 21 + o)) (4 * i1 + 4))), none, some (pI (nI i1)), some (pI (nI 4)), none] _ _ h22
        have hG := hI22.g hG0
        refine J_iload dX3_valueBefore_31 rfl ?_
        refine J_iconstN (n := 4) dX3_valueBefore_33 ?_
        refine J_icmp_geN dX3_valueBefore_34 (by decide) (by decide) (fun c0 => ?_) (fun c0 => absurd c0 (by decide))
        refine J_iincN (n := 1) (L' := [some (pR (some 98)), some (pR (some ta)), some (pR (some tb)), some (pI (nI w)), some (pI (nI s)), some (pI (nI o)), some (pR (some (ta + 2 + w))), some (pR (some (tb + 2 + w))), some (pL (sL64 (PBf (a, rka, rla, u) (b, rkb, rlb, v) (a 2 * pt / 100) ways (h0.2.1 99) (s * 21 + o)) (4 * i1 + 4))), none, some (pI (nI (i1 + 1))), some (pI (nI 4)), none]) dX3_valueBefore_108 rfl (by decide) rfl ?_
        refine J_goto dX3_valueBefore_111 ?_
        refine J_drop (L' := [some (pR (some 98)), some (pR (some ta)), some (pR (some tb)), some (pI (nI w)), some (pI (nI s)), some (pI (nI o)), some (pR (some (ta + 2 + w))), some (pR (some (tb + 2 + w))), some (pL (sL64 (PBf (a, rka, rla, u) (b, rkb, rlb, v) (a 2 * pt / 100) ways (h0.2.1 99) (s * 21 + o)) (4 * i1 + 4))), none, some (pI (nI (i1 + 1))), none, none]) 11 rfl ?_
        refine J_L (L' := [some (pR (some 98)), some (pR (some ta)), some (pR (some tb)), some (pI (nI w)), some (pI (nI s)), some (pI (nI o)), some (pR (some (ta + 2 + w))), some (pR (some (tb + 2 + w))), some (pL (sL64 (PBf (a, rka, rla, u) (b, rkb, rlb, v) (a 2 * pt / 100) ways (h0.2.1 99) (s * 21 + o)) (4 * (i1 + 1)))), none, some (pI (nI (i1 + 1))), none, none]) rfl ?_
        exact ih1 () _ hI22
      · show J _ _ _ _ _ [some (pR (some 98)), some (pR (some ta)), some (pR (some tb)), some (pI (nI w)), some (pI (nI s)), some (pI (nI o)), some (pR (some (ta + 2 + w))), some (pR (some (tb + 2 + w))), some (pL (sL64 (PBf (a, rka, rla, u) (b, rkb, rlb, v) (a 2 * pt / 100) ways (h0.2.1 99) (s * 21 + o)) (4 * i1 + i22))), none, some (pI (nI i1)), some (pI (nI i22)), none] _ _ h22
        have hG := hI22.g hG0
        have ui := (hUa i1 (by omega)).2
        have vj := (hUb i22 (by omega)).2
        have u4 := (hUa 4 (by omega)).2
        have v4 := (hUb 4 (by omega)).2
        have fst : sL64 (PBf (a, rka, rla, u) (b, rkb, rlb, v) (a 2 * pt / 100) ways (h0.2.1 99) (s * 21 + o)) (4 * i1 + (i22 + 1)) = sL64 (PBf (a, rka, rla, u) (b, rkb, rlb, v) (a 2 * pt / 100) ways (h0.2.1 99) (s * 21 + o)) (4 * i1 + i22) + lN (u i1 * v i22) * (pG (a, rka, rla, u) (b, rkb, rlb, v) (a 2 * pt / 100) s o i1 i22 * ways + h0.2.1 99 (pN (a, rka, rla, u) (b, rkb, rlb, v) s o i1 i22)) := congrArg (fun z => sL64 (PBf (a, rka, rla, u) (b, rkb, rlb, v) (a 2 * pt / 100) ways (h0.2.1 99) (s * 21 + o)) (4 * i1 + i22) + z) (PBf_at (by omega) (by omega))
        have huv : u i1 * v i22 ≤ 10 * 10 := Nat.mul_le_mul ui vj
        refine J_iload dX3_valueBefore_31 rfl ?_
        refine J_iconstN (n := 4) dX3_valueBefore_33 ?_
        refine J_icmp_geN dX3_valueBefore_34 (by omega) (by omega) (fun c2 => ?_) (fun c2 => ?_)
        · exact (show False by omega).elim
        · refine J_aload dX3_valueBefore_37 rfl ?_
          refine J_iload dX3_valueBefore_39 rfl ?_
          refine J_ialdN dX3_valueBefore_41 (hta.sw (by omega)) (by decide) (by omega) ?_
          refine J_cvI (((hI22.i (by omega)).trans (hUa i1 (by omega)).1)) ?_
          refine J_aload dX3_valueBefore_42 rfl ?_
          refine J_iload dX3_valueBefore_44 rfl ?_
          refine J_ialdN dX3_valueBefore_46 (htb.sw (by omega)) (by decide) (by omega) ?_
          refine J_cvI (((hI22.i (by omega)).trans (hUb i22 (by omega)).1)) ?_
          refine J_imulN dX3_valueBefore_47 ?_
          refine J_istore (L' := [some (pR (some 98)), some (pR (some ta)), some (pR (some tb)), some (pI (nI w)), some (pI (nI s)), some (pI (nI o)), some (pR (some (ta + 2 + w))), some (pR (some (tb + 2 + w))), some (pL (sL64 (PBf (a, rka, rla, u) (b, rkb, rlb, v) (a 2 * pt / 100) ways (h0.2.1 99) (s * 21 + o)) (4 * i1 + i22))), none, some (pI (nI i1)), some (pI (nI i22)), some (pI (nI (u i1 * v i22)))]) dX3_valueBefore_48 (by decide) rfl ?_
          refine J_iload dX3_valueBefore_50 rfl ?_
          refine J_if_leN dX3_valueBefore_52 (by omega) (fun c3 => ?_) (fun c3 => ?_)
          · refine J_iincN (n := 1) (L' := [some (pR (some 98)), some (pR (some ta)), some (pR (some tb)), some (pI (nI w)), some (pI (nI s)), some (pI (nI o)), some (pR (some (ta + 2 + w))), some (pR (some (tb + 2 + w))), some (pL (sL64 (PBf (a, rka, rla, u) (b, rkb, rlb, v) (a 2 * pt / 100) ways (h0.2.1 99) (s * 21 + o)) (4 * i1 + i22))), none, some (pI (nI i1)), some (pI (nI (i22 + 1))), some (pI (nI (u i1 * v i22)))]) dX3_valueBefore_102 rfl (by decide) rfl ?_
            refine J_goto dX3_valueBefore_105 ?_
            refine J_drop (L' := [some (pR (some 98)), some (pR (some ta)), some (pR (some tb)), some (pI (nI w)), some (pI (nI s)), some (pI (nI o)), some (pR (some (ta + 2 + w))), some (pR (some (tb + 2 + w))), some (pL (sL64 (PBf (a, rka, rla, u) (b, rkb, rlb, v) (a 2 * pt / 100) ways (h0.2.1 99) (s * 21 + o)) (4 * i1 + i22))), none, some (pI (nI i1)), some (pI (nI (i22 + 1))), none]) 12 rfl ?_
            have K := ih22 () _ hI22
            rw [fst, show u i1 * v i22 = 0 by omega, lN_0, show (0 : Int64) * (pG (a, rka, rla, u) (b, rkb, rlb, v) (a 2 * pt / 100) s o i1 i22 * ways + h0.2.1 99 (pN (a, rka, rla, u) (b, rkb, rlb, v) s o i1 i22)) = 0 by grind, Int64.add_zero] at K
            exact K
          · refine J_aload_n dX3_valueBefore_55 rfl ?_
            refine J_getR (r := some 101) dX3_valueBefore_56 fX3_21 s98 (fun _ => rfl) (g98_2 hG) ?_
            refine J_aload_n dX3_valueBefore_59 rfl ?_
            refine J_iload dX3_valueBefore_60 rfl ?_
            refine J_iload dX3_valueBefore_62 rfl ?_
            refine J_aload dX3_valueBefore_64 rfl ?_
            refine J_iconstN (n := 4) dX3_valueBefore_66 ?_
            refine J_ialdN dX3_valueBefore_67 (hta.sw (by omega)) (by decide) (by omega) ?_
            refine J_cvI (((hI22.i (by omega)).trans (hUa 4 (by omega)).1)) ?_
            refine J_cVV (ci := 8) (c := 101) (as := [pR (some ta), pI (nI s), pI (nI i1), pI (nI (u 4))]) (st := []) dX3_valueBefore_68 lX3_80 okX8_giveOut vX8_giveOut s101 (by decide) rfl rfl rfl (Nat.le_of_ble_eq_true rfl) ⟨Nat.le_of_ble_eq_true rfl, Nat.le_of_ble_eq_true rfl⟩ CR.f (c_X8_giveOut (by unfold IsWk; omega) hta ((hI22.i (by omega)).trans hA.2.1) ((hI22.i (by omega)).trans hA.2.2.1) hA.2.2.2.1 hA.2.2.2.2 (by omega) (by omega) (by omega)) (fun g1 e1 => ?_)
            obtain ⟨⟨p1, p2, p3, p0⟩, f1, -⟩ := wk4 e1
            have hG := f1.g hG
            have F1 : Fr 101 102 h0 g1 := hI22.tr (f1.mo (by decide) (by decide))
            refine J_aload_n dX3_valueBefore_71 rfl ?_
            refine J_getR (r := some 102) dX3_valueBefore_72 fX3_25 s98 (fun _ => rfl) (g98_3 hG) ?_
            refine J_aload_n dX3_valueBefore_75 rfl ?_
            refine J_iload dX3_valueBefore_76 rfl ?_
            refine J_iload dX3_valueBefore_78 rfl ?_
            refine J_aload dX3_valueBefore_80 rfl ?_
            refine J_iconstN (n := 4) dX3_valueBefore_82 ?_
            refine J_ialdN dX3_valueBefore_83 (htb.sw (by omega)) (by decide) (by omega) ?_
            refine J_cvI (((F1.i (by omega)).trans (hUb 4 (by omega)).1)) ?_
            refine J_cVV (ci := 8) (c := 102) (as := [pR (some tb), pI (nI o), pI (nI i22), pI (nI (v 4))]) (st := []) dX3_valueBefore_84 lX3_80 okX8_giveOut vX8_giveOut s102 (by decide) rfl rfl rfl (Nat.le_of_ble_eq_true rfl) ⟨Nat.le_of_ble_eq_true rfl, Nat.le_of_ble_eq_true rfl⟩ CR.f (c_X8_giveOut (by unfold IsWk; omega) htb ((F1.i (by omega)).trans hB.2.1) ((F1.i (by omega)).trans hB.2.2.1) hB.2.2.2.1 hB.2.2.2.2 (by omega) (by omega) (by omega)) (fun g2 e2 => ?_)
            obtain ⟨⟨q1, q2, q3, q0⟩, f2, -⟩ := wk4 e2
            have hG := f2.g hG
            have F2 : Fr 101 102 h0 g2 := F1.tr (f2.mo (by decide) (by decide))
            have r1 := gv_wa rka rla s i1 (u 4)
            have r2 := lk_wa s i1 (u 4)
            have r3 := ms_wa rka rla s i1 (u 4)
            have r4 := rs_le rka rla s i1 (u 4)
            have r5 := gv_wa rkb rlb o i22 (v 4)
            have r6 := lk_wa o i22 (v 4)
            have r7 := rs_le rkb rlb o i22 (v 4)
            have s5 := (hA.1 5 (by decide)).2
            have s6 := (hB.1 5 (by decide)).2
            refine J_lload dX3_valueBefore_87 rfl ?_
            refine J_iload dX3_valueBefore_89 rfl ?_
            refine J_i2lN dX3_valueBefore_91 (mul_lt31 1000 1000 (by omega) (by omega) (by decide)) ?_
            refine J_aload_n dX3_valueBefore_92 rfl ?_
            refine J_aload_n dX3_valueBefore_93 rfl ?_
            refine J_aload_n dX3_valueBefore_94 rfl ?_
            refine J_cVL (ci := 3) (c := 98) (as := [pR (some ta), pR (some tb)]) (st := [pL (lN (u i1 * v i22)), pL (sL64 (PBf (a, rka, rla, u) (b, rkb, rlb, v) (a 2 * pt / 100) ways (h0.2.1 99) (s * 21 + o)) (4 * i1 + i22))]) dX3_valueBefore_95 lX3_84 okX3_valueOfWeek vX3_valueOfWeek s98 (by decide) rfl rfl rfl (Nat.le_of_ble_eq_true rfl) ⟨Nat.le_of_ble_eq_true rfl, Nat.le_of_ble_eq_true rfl⟩ CR.f (c_X3_valueOfWeek hG hta htb ((F2.i (by omega)).trans hB.2.1) ((F2.i (by omega)).trans hB.2.2.1) hB.2.2.2.1 hB.2.2.2.2 ((F2.i (by omega)).trans (hA.1 2 (by decide)).1) ((F2.i (by omega)).trans (hA.1 3 (by decide)).1) ((F2.i (by omega)).trans (hA.1 5 (by decide)).1) ((F2.i (by omega)).trans hp) ((F2.i (by omega)).trans (hB.1 2 (by decide)).1) ((F2.i (by omega)).trans (hB.1 3 (by decide)).1) ((F2.i (by omega)).trans (hB.1 5 (by decide)).1) ((f2.i (by decide)).trans p0) ((f2.i (by decide)).trans p1) ((f2.i (by decide)).trans p2) ((f2.i (by decide)).trans p3) q0 q1 q2 ((F2.l (by decide)).trans hways) a2 a3 s5 bp z2 z3 s6 (by omega) (by omega) (by omega) (by omega) (by omega) (by omega) (by omega)) (fun v3 g3 e3 => ?_)
            obtain ⟨rfl, f3⟩ := e3
            have f3 := F2.tr f3
            refine J_cvL (y := pG (a, rka, rla, u) (b, rkb, rlb, v) (a 2 * pt / 100) s o i1 i22 * ways + h0.2.1 99 (pN (a, rka, rla, u) (b, rkb, rlb, v) s o i1 i22)) (congrArg (fun z => pG (a, rka, rla, u) (b, rkb, rlb, v) (a 2 * pt / 100) s o i1 i22 * ways + z) (F2.l (by decide))) ?_
            refine J_lmul dX3_valueBefore_98 ?_
            refine J_ladd dX3_valueBefore_99 ?_
            refine J_cvL (y := sL64 (PBf (a, rka, rla, u) (b, rkb, rlb, v) (a 2 * pt / 100) ways (h0.2.1 99) (s * 21 + o)) (4 * i1 + (i22 + 1))) fst.symm ?_
            refine J_lstore (L' := [some (pR (some 98)), some (pR (some ta)), some (pR (some tb)), some (pI (nI w)), some (pI (nI s)), some (pI (nI o)), some (pR (some (ta + 2 + w))), some (pR (some (tb + 2 + w))), some (pL (sL64 (PBf (a, rka, rla, u) (b, rkb, rlb, v) (a 2 * pt / 100) ways (h0.2.1 99) (s * 21 + o)) (4 * i1 + (i22 + 1)))), none, some (pI (nI i1)), some (pI (nI i22)), some (pI (nI (u i1 * v i22)))]) dX3_valueBefore_100 (by decide) rfl ?_
            refine J_iincN (n := 1) (L' := [some (pR (some 98)), some (pR (some ta)), some (pR (some tb)), some (pI (nI w)), some (pI (nI s)), some (pI (nI o)), some (pR (some (ta + 2 + w))), some (pR (some (tb + 2 + w))), some (pL (sL64 (PBf (a, rka, rla, u) (b, rkb, rlb, v) (a 2 * pt / 100) ways (h0.2.1 99) (s * 21 + o)) (4 * i1 + (i22 + 1)))), none, some (pI (nI i1)), some (pI (nI (i22 + 1))), some (pI (nI (u i1 * v i22)))]) dX3_valueBefore_102 rfl (by decide) rfl ?_
            refine J_goto dX3_valueBefore_105 ?_
            refine J_drop (L' := [some (pR (some 98)), some (pR (some ta)), some (pR (some tb)), some (pI (nI w)), some (pI (nI s)), some (pI (nI o)), some (pR (some (ta + 2 + w))), some (pR (some (tb + 2 + w))), some (pL (sL64 (PBf (a, rka, rla, u) (b, rkb, rlb, v) (a 2 * pt / 100) ways (h0.2.1 99) (s * 21 + o)) (4 * i1 + (i22 + 1)))), none, some (pI (nI i1)), some (pI (nI (i22 + 1))), none]) 12 rfl ?_
            exact ih22 () _ f3
theorem c_X3_valueEnd {h0 : PH} {ta tb rka rla rkb rlb q r : Nat} {a b u v : Nat → Nat} (hG0 : GR h0.2.2) (hta : IsTh ta) (htb : IsTh tb) (hA : TA h0 ta a rka rla) (hB : TA h0 tb b rkb rlb) (a4 : a 4 ≤ 99) (z4 : b 4 ≤ 99) (hq : q ≤ 20) (hr : r ≤ 20) : CtV mX3_valueEnd h0 [pR (some 98), pR (some ta), pR (some tb), pI (nI q), pI (nI r)] (fun h' => (∀ x, x ≤ q → ∀ y, y ≤ r → h'.2.1 99 (x * 21 + y) = pE (a, rka, rla, u) (b, rkb, rlb, v) (x * 21 + y)) ∧ h'.2.1 98 4 = 1 ∧ Fr 98 102 h0 h') := by
  have bta := hta.lt
  have btb := htb.lt
  have hG := hG0
  refine Ct.of (L := [some (pR (some 98)), some (pR (some ta)), some (pR (some tb)), some (pI (nI q)), some (pI (nI r)), none, none]) rfl rfl (Nat.le_of_ble_eq_true rfl) rfl ?_
  refine J_iconstN (n := 0) dX3_valueEnd_0 ?_
  refine J_istore (L' := [some (pR (some 98)), some (pR (some ta)), some (pR (some tb)), some (pI (nI q)), some (pI (nI r)), some (pI (nI 0)), none]) dX3_valueEnd_1 (by decide) rfl ?_
  refine J_L (L' := [some (pR (some 98)), some (pR (some ta)), some (pR (some tb)), some (pI (nI q)), some (pI (nI r)), some (pI (nI 0)), none]) rfl ?_
  refine J_forI (α := Unit) (L := fun i1 aa1 => [some (pR (some 98)), some (pR (some ta)), some (pR (some tb)), some (pI (nI q)), some (pI (nI r)), some (pI (nI i1)), none]) (fun i1 aa1 h1 => (∀ x, x < i1 → ∀ y, y ≤ r → h1.2.1 99 (x * 21 + y) = (pE (a, rka, rla, u) (b, rkb, rlb, v)) (x * 21 + y)) ∧ Fr 99 99 h0 h1) (e := q + 1) (fun aa1 h1 hI1 => ?_) (fun i1 aa1 h1 hi1 hI1 ih1 => ?_) 0 (()) _ (by omega) (⟨fun j hj => absurd hj (Nat.not_lt_zero j), Fr.rf⟩)
  · show J _ _ _ _ _ [some (pR (some 98)), some (pR (some ta)), some (pR (some tb)), some (pI (nI q)), some (pI (nI r)), some (pI (nI (q + 1))), none] _ _ h1
    obtain ⟨hI2, hI3⟩ := hI1
    have hG := hI3.g hG0
    refine J_iload dX3_valueEnd_3 rfl ?_
    refine J_iload_n dX3_valueEnd_5 rfl ?_
    refine J_icmp_gtN dX3_valueEnd_6 (by omega) (by omega) (fun c1 => ?_) (fun c1 => ?_)
    · refine J_aload_n dX3_valueEnd_60 rfl ?_
      refine J_lconst (x := 1) dX3_valueEnd_61 rfl ?_
      refine J_putL dX3_valueEnd_62 fX3_60 s98 rfl rfl ?_
      exact J_retV dX3_valueEnd_65 rfl ⟨fun x hx y hy => (rL_c (by decide)).trans (hI2 x (by omega) y hy), rL_s, (hI3.mo (by decide) (by decide)).tr (Fr.sL (by decide) (by decide))⟩
    · exact (show False by omega).elim
  · show J _ _ _ _ _ [some (pR (some 98)), some (pR (some ta)), some (pR (some tb)), some (pI (nI q)), some (pI (nI r)), some (pI (nI i1)), none] _ _ h1
    obtain ⟨hI2, hI3⟩ := hI1
    have hG := hI3.g hG0
    refine J_iload dX3_valueEnd_3 rfl ?_
    refine J_iload_n dX3_valueEnd_5 rfl ?_
    refine J_icmp_gtN dX3_valueEnd_6 (by omega) (by omega) (fun c2 => ?_) (fun c2 => ?_)
    · exact (show False by omega).elim
    · refine J_iconstN (n := 0) dX3_valueEnd_9 ?_
      refine J_istore (L' := [some (pR (some 98)), some (pR (some ta)), some (pR (some tb)), some (pI (nI q)), some (pI (nI r)), some (pI (nI i1)), some (pI (nI 0))]) dX3_valueEnd_10 (by decide) rfl ?_
      refine J_L (L' := [some (pR (some 98)), some (pR (some ta)), some (pR (some tb)), some (pI (nI q)), some (pI (nI r)), some (pI (nI i1)), some (pI (nI 0))]) rfl ?_
      refine J_forI (α := Unit) (L := fun i22 aa22 => [some (pR (some 98)), some (pR (some ta)), some (pR (some tb)), some (pI (nI q)), some (pI (nI r)), some (pI (nI i1)), some (pI (nI i22))]) (fun i22 aa22 h22 => (∀ x, x < i1 → ∀ y, y ≤ r → h22.2.1 99 (x * 21 + y) = (pE (a, rka, rla, u) (b, rkb, rlb, v)) (x * 21 + y)) ∧ (∀ y, y < i22 → h22.2.1 99 (i1 * 21 + y) = (pE (a, rka, rla, u) (b, rkb, rlb, v)) (i1 * 21 + y)) ∧ Fr 99 99 h0 h22) (e := r + 1) (fun aa22 h22 hI22 => ?_) (fun i22 aa22 h22 hi22 hI22 ih22 => ?_) 0 (()) _ (by omega) (⟨hI2, fun j hj => absurd hj (Nat.not_lt_zero j), hI3⟩)
      · show J _ _ _ _ _ [some (pR (some 98)), some (pR (some ta)), some (pR (some tb)), some (pI (nI q)), some (pI (nI r)), some (pI (nI i1)), some (pI (nI (r + 1)))] _ _ h22
        obtain ⟨hJ2, hJ3, hJ4⟩ := hI22
        have hG := hJ4.g hG0
        refine J_iload dX3_valueEnd_12 rfl ?_
        refine J_iload dX3_valueEnd_14 rfl ?_
        refine J_icmp_gtN dX3_valueEnd_16 (by omega) (by omega) (fun c3 => ?_) (fun c3 => ?_)
        · refine J_iincN (n := 1) (L' := [some (pR (some 98)), some (pR (some ta)), some (pR (some tb)), some (pI (nI q)), some (pI (nI r)), some (pI (nI (i1 + 1))), some (pI (nI (r + 1)))]) dX3_valueEnd_54 rfl (by decide) rfl ?_
          refine J_goto dX3_valueEnd_57 ?_
          refine J_drop (L' := [some (pR (some 98)), some (pR (some ta)), some (pR (some tb)), some (pI (nI q)), some (pI (nI r)), some (pI (nI (i1 + 1))), none]) 6 rfl ?_
          exact ih1 () _ ⟨fun x hx y hy => by
          by_cases z : x = i1
          · subst z; exact hJ3 y (by omega)
          · exact hJ2 x (by omega) y hy, hJ4⟩
        · exact (show False by omega).elim
      · show J _ _ _ _ _ [some (pR (some 98)), some (pR (some ta)), some (pR (some tb)), some (pI (nI q)), some (pI (nI r)), some (pI (nI i1)), some (pI (nI i22))] _ _ h22
        obtain ⟨hJ2, hJ3, hJ4⟩ := hI22
        have hG := hJ4.g hG0
        have ma : a 4 * i1 ≤ 99 * 20 := Nat.mul_le_mul a4 (by omega)
        have mb : b 4 * i22 ≤ 99 * 20 := Nat.mul_le_mul z4 (by omega)
        refine J_iload dX3_valueEnd_12 rfl ?_
        refine J_iload dX3_valueEnd_14 rfl ?_
        refine J_icmp_gtN dX3_valueEnd_16 (by omega) (by omega) (fun c4 => ?_) (fun c4 => ?_)
        · exact (show False by omega).elim
        · refine J_aload_n dX3_valueEnd_19 rfl ?_
          refine J_getR (r := some 99) dX3_valueEnd_20 fX3_11 s98 (fun _ => rfl) (g98_0 hG) ?_
          refine J_iload dX3_valueEnd_23 rfl ?_
          refine J_bipush (x := nI 21) dX3_valueEnd_25 (by decide) ?_
          refine J_imulN dX3_valueEnd_27 ?_
          refine J_iload dX3_valueEnd_28 rfl ?_
          refine J_iaddN dX3_valueEnd_30 ?_
          refine J_aload_n dX3_valueEnd_31 rfl ?_
          refine J_getI dX3_valueEnd_32 fX3_57 hta.s (fun _ => rfl) ?_
          refine J_cvI (((hJ4.i (by omega)).trans (hA.1 4 (by decide)).1)) ?_
          refine J_iload dX3_valueEnd_35 rfl ?_
          refine J_imulN dX3_valueEnd_37 ?_
          refine J_aload_n dX3_valueEnd_38 rfl ?_
          refine J_getI dX3_valueEnd_39 fX3_57 htb.s (fun _ => rfl) ?_
          refine J_cvI (((hJ4.i (by omega)).trans (hB.1 4 (by decide)).1)) ?_
          refine J_iload dX3_valueEnd_42 rfl ?_
          refine J_imulN dX3_valueEnd_44 ?_
          refine J_iaddN dX3_valueEnd_45 ?_
          refine J_i2lN dX3_valueEnd_46 (by omega) ?_
          refine J_cvL (y := pE (a, rka, rla, u) (b, rkb, rlb, v) (i1 * 21 + i22)) (by unfold pE; rw [(d21 (by omega)).1, (d21 (by omega)).2]) ?_
          refine J_lastN dX3_valueEnd_47 s99 (by decide) (by omega) ?_
          refine J_iincN (n := 1) (L' := [some (pR (some 98)), some (pR (some ta)), some (pR (some tb)), some (pI (nI q)), some (pI (nI r)), some (pI (nI i1)), some (pI (nI (i22 + 1)))]) dX3_valueEnd_48 rfl (by decide) rfl ?_
          refine J_goto dX3_valueEnd_51 ?_
          exact ih22 () _ ⟨fun x hx y hy => (rL_k (by omega)).trans (hJ2 x hx y hy), fun y hy => by
            by_cases z : y = i22
            · subst z; exact rL_s
            · exact (rL_k (by omega)).trans (hJ3 y (by omega)), hJ4.tr (Fr.sL (by decide) (by decide))⟩
theorem c_X3_weekBack {h0 : PH} {ta tb w pt rka rla rkb rlb q r n : Nat} {a b u v : Nat → Nat} (hG0 : GR h0.2.2) (hta : IsTh ta) (htb : IsTh tb) (hw : w < 4) (hA : TA h0 ta a rka rla) (hB : TA h0 tb b rkb rlb) (hp : h0.1 ta 7 = nI pt) (hUa : WA h0 (ta + 2 + w) u) (hUb : WA h0 (tb + 2 + w) v) (hways : h0.2.1 98 4 = tenL (2 * n)) (a2 : a 2 ≤ 99) (a3 : a 3 ≤ 500) (z2 : b 2 ≤ 99) (z3 : b 3 ≤ 500) (bp : pt ≤ 100) (hq : q ≤ 20) (hr : r ≤ 20) (hV : ∀ x, x ≤ q → ∀ y, y ≤ r → h0.2.1 99 (x * 21 + y) = PB (a, rka, rla, u) (b, rkb, rlb, v) (a 2 * pt / 100) n (x * 21 + y)) : CtV mX3_weekBack h0 [pR (some 98), pR (some ta), pR (some tb), pI (nI w), pI (nI q), pI (nI r)] (fun h' => (∀ x, x ≤ q → ∀ y, y ≤ r → h'.2.1 99 (x * 21 + y) = PB (a, rka, rla, u) (b, rkb, rlb, v) (a 2 * pt / 100) (n + 1) (x * 21 + y)) ∧ h'.2.1 98 4 = tenL (2 * (n + 1)) ∧ Fr 98 102 h0 h') := by
  have bta := hta.lt
  have btb := htb.lt
  have hG := hG0
  refine Ct.of (L := [some (pR (some 98)), some (pR (some ta)), some (pR (some tb)), some (pI (nI w)), some (pI (nI q)), some (pI (nI r)), none, none]) rfl rfl (Nat.le_of_ble_eq_true rfl) rfl ?_
  refine J_iconstN (n := 0) dX3_weekBack_0 ?_
  refine J_istore (L' := [some (pR (some 98)), some (pR (some ta)), some (pR (some tb)), some (pI (nI w)), some (pI (nI q)), some (pI (nI r)), some (pI (nI 0)), none]) dX3_weekBack_1 (by decide) rfl ?_
  refine J_L (L' := [some (pR (some 98)), some (pR (some ta)), some (pR (some tb)), some (pI (nI w)), some (pI (nI q)), some (pI (nI r)), some (pI (nI 0)), none]) rfl ?_
  refine J_forI (α := Unit) (L := fun i1 aa1 => [some (pR (some 98)), some (pR (some ta)), some (pR (some tb)), some (pI (nI w)), some (pI (nI q)), some (pI (nI r)), some (pI (nI i1)), none]) (fun i1 aa1 h1 => (∀ x, x < i1 → ∀ y, y ≤ r → h1.2.1 100 (x * 21 + y) = (PB (a, rka, rla, u) (b, rkb, rlb, v) (a 2 * pt / 100) (n + 1)) (x * 21 + y)) ∧ Fr 100 102 h0 h1) (e := q + 1) (fun aa1 h1 hI1 => ?_) (fun i1 aa1 h1 hi1 hI1 ih1 => ?_) 0 (()) _ (by omega) (⟨fun j hj => absurd hj (Nat.not_lt_zero j), Fr.rf⟩)
  · show J _ _ _ _ _ [some (pR (some 98)), some (pR (some ta)), some (pR (some tb)), some (pI (nI w)), some (pI (nI q)), some (pI (nI r)), some (pI (nI (q + 1))), none] _ _ h1
    obtain ⟨hI2, hI3⟩ := hI1
    have hG := hI3.g hG0
    refine J_iload dX3_weekBack_3 rfl ?_
    refine J_iload dX3_weekBack_5 rfl ?_
    refine J_icmp_gtN dX3_weekBack_7 (by omega) (by omega) (fun c1 => ?_) (fun c1 => ?_)
    · refine J_aload_n dX3_weekBack_56 rfl ?_
      refine J_getR (r := some 100) dX3_weekBack_57 fX3_15 s98 (fun _ => rfl) (g98_1 hG) ?_
      refine J_iconstN (n := 0) dX3_weekBack_60 ?_
      refine J_aload_n dX3_weekBack_61 rfl ?_
      refine J_getR (r := some 99) dX3_weekBack_62 fX3_11 s98 (fun _ => rfl) (g98_0 hG) ?_
      refine J_iconstN (n := 0) dX3_weekBack_65 ?_
      refine J_iload dX3_weekBack_66 rfl ?_
      refine J_bipush (x := nI 21) dX3_weekBack_68 (by decide) ?_
      refine J_imulN dX3_weekBack_70 ?_
      refine J_iload dX3_weekBack_71 rfl ?_
      refine J_iaddN dX3_weekBack_73 ?_
      refine J_iconstN (n := 1) dX3_weekBack_74 ?_
      refine J_iaddN dX3_weekBack_75 ?_
      refine J_cpyLN dX3_weekBack_76 lX3_68 s100 s99 (by omega) (by omega) (by omega) (by omega) (by omega) (by decide) (Nat.le_of_ble_eq_true rfl) ?_
      refine J_aload_n dX3_weekBack_79 rfl ?_
      refine J_dup dX3_weekBack_80 rfl ?_
      refine J_getL dX3_weekBack_81 fX3_60 s98 (fun _ => rfl) ?_
      refine J_cvL ((congrFun (rWL_c (by decide)) 4).trans (((hI3.l (by decide)).trans hways))) ?_
      refine J_ldc2 dX3_weekBack_84 kX3_74 ?_
      refine J_lmul dX3_weekBack_87 ?_
      refine J_putL dX3_weekBack_88 fX3_60 s98 rfl rfl ?_
      exact J_retV dX3_weekBack_91 rfl ⟨fun x hx y hy => by
      refine (rL_c (by decide)).trans ?_
      rw [rWL_s]
      show (if 0 ≤ x * 21 + y ∧ x * 21 + y < 0 + (q * 21 + r + 1) then h1.2.1 100 (0 + (x * 21 + y - 0)) else _) = _
      rw [if_pos (by omega), Nat.zero_add, Nat.sub_zero]
      exact hI2 x (by omega) y hy, rL_s.trans tenL_2, ((hI3.mo (by decide) (by decide)).tr (Fr.wL (by decide) (by decide))).tr (Fr.sL (by decide) (by decide))⟩
    · exact (show False by omega).elim
  · show J _ _ _ _ _ [some (pR (some 98)), some (pR (some ta)), some (pR (some tb)), some (pI (nI w)), some (pI (nI q)), some (pI (nI r)), some (pI (nI i1)), none] _ _ h1
    obtain ⟨hI2, hI3⟩ := hI1
    have hG := hI3.g hG0
    refine J_iload dX3_weekBack_3 rfl ?_
    refine J_iload dX3_weekBack_5 rfl ?_
    refine J_icmp_gtN dX3_weekBack_7 (by omega) (by omega) (fun c2 => ?_) (fun c2 => ?_)
    · exact (show False by omega).elim
    · refine J_iconstN (n := 0) dX3_weekBack_10 ?_
      refine J_istore (L' := [some (pR (some 98)), some (pR (some ta)), some (pR (some tb)), some (pI (nI w)), some (pI (nI q)), some (pI (nI r)), some (pI (nI i1)), some (pI (nI 0))]) dX3_weekBack_11 (by decide) rfl ?_
      refine J_L (L' := [some (pR (some 98)), some (pR (some ta)), some (pR (some tb)), some (pI (nI w)), some (pI (nI q)), some (pI (nI r)), some (pI (nI i1)), some (pI (nI 0))]) rfl ?_
      refine J_forI (α := Unit) (L := fun i22 aa22 => [some (pR (some 98)), some (pR (some ta)), some (pR (some tb)), some (pI (nI w)), some (pI (nI q)), some (pI (nI r)), some (pI (nI i1)), some (pI (nI i22))]) (fun i22 aa22 h22 => (∀ x, x < i1 → ∀ y, y ≤ r → h22.2.1 100 (x * 21 + y) = (PB (a, rka, rla, u) (b, rkb, rlb, v) (a 2 * pt / 100) (n + 1)) (x * 21 + y)) ∧ (∀ y, y < i22 → h22.2.1 100 (i1 * 21 + y) = (PB (a, rka, rla, u) (b, rkb, rlb, v) (a 2 * pt / 100) (n + 1)) (i1 * 21 + y)) ∧ Fr 100 102 h0 h22) (e := r + 1) (fun aa22 h22 hI22 => ?_) (fun i22 aa22 h22 hi22 hI22 ih22 => ?_) 0 (()) _ (by omega) (⟨hI2, fun j hj => absurd hj (Nat.not_lt_zero j), hI3⟩)
      · show J _ _ _ _ _ [some (pR (some 98)), some (pR (some ta)), some (pR (some tb)), some (pI (nI w)), some (pI (nI q)), some (pI (nI r)), some (pI (nI i1)), some (pI (nI (r + 1)))] _ _ h22
        obtain ⟨hJ2, hJ3, hJ4⟩ := hI22
        have hG := hJ4.g hG0
        refine J_iload dX3_weekBack_13 rfl ?_
        refine J_iload dX3_weekBack_15 rfl ?_
        refine J_icmp_gtN dX3_weekBack_17 (by omega) (by omega) (fun c3 => ?_) (fun c3 => ?_)
        · refine J_iincN (n := 1) (L' := [some (pR (some 98)), some (pR (some ta)), some (pR (some tb)), some (pI (nI w)), some (pI (nI q)), some (pI (nI r)), some (pI (nI (i1 + 1))), some (pI (nI (r + 1)))]) dX3_weekBack_50 rfl (by decide) rfl ?_
          refine J_goto dX3_weekBack_53 ?_
          refine J_drop (L' := [some (pR (some 98)), some (pR (some ta)), some (pR (some tb)), some (pI (nI w)), some (pI (nI q)), some (pI (nI r)), some (pI (nI (i1 + 1))), none]) 7 rfl ?_
          exact ih1 () _ ⟨fun x hx y hy => by
          by_cases z : x = i1
          · subst z; exact hJ3 y (by omega)
          · exact hJ2 x (by omega) y hy, hJ4⟩
        · exact (show False by omega).elim
      · show J _ _ _ _ _ [some (pR (some 98)), some (pR (some ta)), some (pR (some tb)), some (pI (nI w)), some (pI (nI q)), some (pI (nI r)), some (pI (nI i1)), some (pI (nI i22))] _ _ h22
        obtain ⟨hJ2, hJ3, hJ4⟩ := hI22
        have hG := hJ4.g hG0
        refine J_iload dX3_weekBack_13 rfl ?_
        refine J_iload dX3_weekBack_15 rfl ?_
        refine J_icmp_gtN dX3_weekBack_17 (by omega) (by omega) (fun c4 => ?_) (fun c4 => ?_)
        · exact (show False by omega).elim
        · refine J_aload_n dX3_weekBack_20 rfl ?_
          refine J_getR (r := some 100) dX3_weekBack_21 fX3_15 s98 (fun _ => rfl) (g98_1 hG) ?_
          refine J_iload dX3_weekBack_24 rfl ?_
          refine J_bipush (x := nI 21) dX3_weekBack_26 (by decide) ?_
          refine J_imulN dX3_weekBack_28 ?_
          refine J_iload dX3_weekBack_29 rfl ?_
          refine J_iaddN dX3_weekBack_31 ?_
          refine J_aload_n dX3_weekBack_32 rfl ?_
          refine J_aload_n dX3_weekBack_33 rfl ?_
          refine J_aload_n dX3_weekBack_34 rfl ?_
          refine J_iload_n dX3_weekBack_35 rfl ?_
          refine J_iload dX3_weekBack_36 rfl ?_
          refine J_iload dX3_weekBack_38 rfl ?_
          refine J_cVL (ci := 3) (c := 98) (as := [pR (some ta), pR (some tb), pI (nI w), pI (nI i1), pI (nI i22)]) (st := [pI (nI (i1 * 21 + i22)), pR (some 100)]) dX3_weekBack_40 lX3_64 okX3_valueBefore vX3_valueBefore s98 (by decide) rfl rfl rfl (Nat.le_of_ble_eq_true rfl) ⟨Nat.le_of_ble_eq_true rfl, Nat.le_of_ble_eq_true rfl⟩ CR.f (c_X3_valueBefore (u := u) (v := v) hG hta htb hw (hA.fr hJ4 (by omega)) (hB.fr hJ4 (by omega)) ((hJ4.i (by omega)).trans hp) (hUa.fr hJ4 (by omega)) (hUb.fr hJ4 (by omega)) ((hJ4.l (by decide)).trans hways) a2 a3 z2 z3 bp (by omega) (by omega)) (fun v2 g2 e2 => ?_)
          obtain ⟨rfl, f2⟩ := e2
          have F2 : Fr 100 102 h0 g2 := hJ4.tr (f2.mo (by decide) (by decide))
          have hG := F2.g hG0
          refine J_cvL (y := PB (a, rka, rla, u) (b, rkb, rlb, v) (a 2 * pt / 100) (n + 1) (i1 * 21 + i22)) (PBk_cg (by omega) (fun s2 o2 h1 h2 => (hJ4.l (by decide)).trans (hV s2 (by omega) o2 (by omega)))) ?_
          refine J_lastN dX3_weekBack_43 s100 (by decide) (by omega) ?_
          refine J_iincN (n := 1) (L' := [some (pR (some 98)), some (pR (some ta)), some (pR (some tb)), some (pI (nI w)), some (pI (nI q)), some (pI (nI r)), some (pI (nI i1)), some (pI (nI (i22 + 1)))]) dX3_weekBack_44 rfl (by decide) rfl ?_
          refine J_goto dX3_weekBack_47 ?_
          exact ih22 () _ ⟨fun x hx y hy => (rL_k (by omega)).trans ((f2.l (by decide)).trans (hJ2 x hx y hy)), fun y hy => by
            by_cases z : y = i22
            · subst z; exact rL_s
            · exact (rL_k (by omega)).trans ((f2.l (by decide)).trans (hJ3 y (by omega))), F2.tr (Fr.sL (by decide) (by decide))⟩
