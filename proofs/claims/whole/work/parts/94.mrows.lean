/-! ===== clauses that add a row: the model ===== -/
theorem c_X10_readWinter {R : (Nat × Nat) × PS} {h0 h : PH} {T : Nat → Int32} {n p c : Nat} {num : Nat → Nat} {S : PS} (hG : GR h.2.2) (hA : At R h0 h T n (S, 0, c, num) p) (hD : Md h S) (hK : tkK T n (rn cBl T n p) = 2) (hkw : kw (tkV T n (rn cBl T n p)) = 3) : CtI mX10_readWinter h [pR (some 158)] (fun v h' => Rr R h0 h' T n 2 (S.1 0 5 0) v) := by
  have w4 : S.1 0 2 0 ≤ 4 := hA.2.2.1.1.1.1.2.2.1
  have t4 : S.1 0 3 0 ≤ 4 := hA.2.2.1.1.1.1.2.2.2.1
  have f6 : S.1 0 4 0 ≤ 6 := hA.2.2.1.1.1.1.2.2.2.2.1
  have h7 : h.1 160 7 = nI (S.1 0 2 0) := hD.1 2 (by decide)
  refine Ct.of (L := [some (pR (some 158)), none, none, none]) rfl rfl (Nat.le_of_ble_eq_true rfl) rfl ?_
  refine J_aload_n dX10_readWinter_0 rfl ?_
  refine J_getR (r := some 160) dX10_readWinter_1 fX10_17 s158 (fun _ => rfl) (g158_12 hG) ?_
  refine J_bipush (x := nI 7) dX10_readWinter_4 (by decide) ?_
  refine J_ialdN dX10_readWinter_6 s160 (by decide) (by omega) ?_
  refine J_cvI (h7) ?_
  refine J_istore_n (L' := [some (pR (some 158)), some (pI (nI (S.1 0 2 0))), none, none]) dX10_readWinter_7 (by decide) rfl ?_
  refine J_iload_n dX10_readWinter_8 rfl ?_
  refine J_iconstN (n := 4) dX10_readWinter_9 ?_
  refine J_icmp_neN dX10_readWinter_10 (by omega) (by omega) (fun d0 => ?_) (fun d0 => ?_)
  · refine J_aload_n dX10_readWinter_19 rfl ?_
    refine J_cVV (ci := 10) (c := 158) (as := []) (st := []) dX10_readWinter_20 lX10_179 okX10_scan vX10_scan s158 (by decide) rfl rfl rfl (Nat.le_of_ble_eq_true rfl) ⟨Nat.le_of_ble_eq_true rfl, Nat.le_of_ble_eq_true rfl⟩ CR.f (c_X10_scan hG hA.2.1.1 hA.1.2.2.2.1 (tkE_le (rn_le hA.2.1.2))) (fun gs1 es1 => ?_)
    obtain ⟨ps1, hA⟩ := (hA.kg hK hkw (by rw [kwFt_3, if_pos (by omega)]) es1.2 es1.1).x
    have hG := es1.1.g hG
    have hS : Sh gs1 h := Sh.rf.ms es1.1
    have hD1 := hD.sh hS
    have h7 : gs1.1 160 7 = nI (S.1 0 2 0) := hD1.1 2 (by decide)
    have hst := stM_b (K := tkK T n (rn cBl T n ps1))
    refine J_aload_n dX10_readWinter_23 rfl ?_
    refine J_getI dX10_readWinter_24 fX10_141 s158 (fun _ => rfl) ?_
    refine J_cvI (hA.1.1) ?_
    refine J_iconstN (n := 1) dX10_readWinter_27 ?_
    refine J_icmp_eqN dX10_readWinter_28 (by omega) (by omega) (fun d1 => ?_) (fun d1 => ?_)
    · have q2 := (st_1 tkK_b).mp d1
      have hw := hA.1.2.2.2.2.1 q2
      have hVb := tkV_40 q2
      refine J_aload_n dX10_readWinter_37 rfl ?_
      refine J_cVI (ci := 10) (c := 158) (as := []) (st := []) dX10_readWinter_38 lX10_193 okX10_winterNamed vX10_winterNamed s158 (by decide) rfl rfl rfl (Nat.le_of_ble_eq_true rfl) ⟨Nat.le_of_ble_eq_true rfl, Nat.le_of_ble_eq_true rfl⟩ CR.f (c_X10_winterNamed (V := tkV T n (rn cBl T n ps1)) (c := S.1 0 2 0) (g := S.2.1 2) hG h7 w4 hD1.2.2.2.2.2.2.2.2.1.1 hw (tkV_40 q2)) (fun vq3 gq3 eq3 => ?_)
      rw [eq3.2, eq3.1]
      have hfd := fdN_le (g := S.2.1 2) (V := tkV T n (rn cBl T n ps1)) (S.1 0 2 0)
      refine J_iconst (x := -1) dX10_readWinter_41 (by decide) ?_
      refine J_icmp_eq dX10_readWinter_42 (fun d2 => ?_) (fun d2 => ?_)
      · have zn : nameF S 2 0 (tkV T n (rn cBl T n ps1)) num = 0 := (by rw [nF_k (by decide) (by decide)]; exact if_pos ((hlp_m1 (by omega)).mp d2))
        refine J_aload_n dX10_readWinter_51 rfl ?_
        refine J_getR (r := some 161) dX10_readWinter_52 fX10_21 s158 (fun _ => rfl) (g158_13 hG) ?_
        refine J_iload_n dX10_readWinter_55 rfl ?_
        refine J_aload_n dX10_readWinter_56 rfl ?_
        refine J_getL dX10_readWinter_57 fX10_148 s158 (fun _ => rfl) ?_
        refine J_cvL (hw) ?_
        refine J_lastN dX10_readWinter_60 s161 (by decide) (by omega) ?_
        refine J_aload_n dX10_readWinter_61 rfl ?_
        refine J_cVV (ci := 10) (c := 158) (as := []) (st := []) dX10_readWinter_62 lX10_179 okX10_scan vX10_scan s158 (by decide) rfl rfl rfl (Nat.le_of_ble_eq_true rfl) ⟨Nat.le_of_ble_eq_true rfl, Nat.le_of_ble_eq_true rfl⟩ CR.f (c_X10_scan (h := sL (gs1) 161 (S.1 0 2 0) (lN (tkV T n (rn cBl T n ps1)))) hG hA.2.1.1 hA.1.2.2.2.1 (tkE_le (rn_le hA.2.1.2))) (fun gs2 es2 => ?_)
        have hS : Sh gs2 (sL h 161 (S.1 0 2 0) (lN (tkV T n (rn cBl T n ps1)))) := (hS.sl (by decide)).ms es2.1
        have hB : Mt (sL (gs1) 161 (S.1 0 2 0) (lN (tkV T n (rn cBl T n ps1)))) T n := hA.2.1.1
        obtain ⟨ps2, hA⟩ := (hA.w (k := 2) (c := 0) rfl q2 zn es2.2 (hB.ms es2.1) ((hA.2.2.2.2.sl (by decide)).ms es2.1)).x
        have hG := es2.1.g hG
        have h7 : gs2.1 160 7 = nI (S.1 0 2 0) := (congrFun (es2.1.1 160 (by decide)).1 7).trans h7
        have hst := stM_b (K := tkK T n (rn cBl T n ps2))
        refine J_iconstN (n := 0) dX10_readWinter_65 ?_
        refine J_istore_n (L' := [some (pR (some 158)), some (pI (nI (S.1 0 2 0))), some (pI (nI 0)), none]) dX10_readWinter_66 (by decide) rfl ?_
        refine J_iconstN (n := 0) dX10_readWinter_67 ?_
        refine J_istore_n (L' := [some (pR (some 158)), some (pI (nI (S.1 0 2 0))), some (pI (nI 0)), some (pI (nI 0))]) dX10_readWinter_68 (by decide) rfl ?_
        refine J_iload_n dX10_readWinter_69 rfl ?_
        refine J_iconstN (n := 4) dX10_readWinter_70 ?_
        refine J_icmp_geN dX10_readWinter_71 (by decide) (by decide) (fun c0 => absurd c0 (by decide)) (fun c0 => ?_)
        refine J_iload_n dX10_readWinter_74 rfl ?_
        refine J_iconstN (n := 3) dX10_readWinter_75 ?_
        refine J_icmp_neN dX10_readWinter_76 (by decide) (by decide) (fun c0 => ?_) (fun c0 => absurd c0 (by decide))
        refine J_aload_n dX10_readWinter_90 rfl ?_
        refine J_iconstN (n := 0) dX10_readWinter_91 ?_
        refine J_bipush (x := nI 10) dX10_readWinter_92 (by decide) ?_
        refine J_cVI (ci := 10) (c := 158) (as := [pI (nI 0), pI (nI 10)]) (st := []) dX10_readWinter_94 lX10_199 okX10_readNumber vX10_readNumber s158 (by decide) rfl rfl rfl (Nat.le_of_ble_eq_true rfl) ⟨Nat.le_of_ble_eq_true rfl, Nat.le_of_ble_eq_true rfl⟩ CR.f (c_X10_readNumber (lo := 0) (hi := 10) hG hA.2.1.1 hA.1 (rn_le hA.2.1.2) (by decide) (by decide)) (fun vn5 gn5 en5 => ?_)
        have yn5 := en5.1
        subst yn5
        refine J_if_neB dX10_readWinter_97 (fun c6 => ?_) (fun c6 => ?_)
        · obtain ⟨pn5, Vn5, hA, mn5, bn5⟩ := hA.nx (fOf_N (k := 2) (c := 1) (lo := 0) (hi := 10) rfl rfl rfl (by decide) (by decide)) c6 en5
          have hG := mn5.g hG
          have hS := hS.mg mn5
          have h7 := (congrFun (mn5.1 160 (by decide)).1 7).trans h7
          have hst := stM_b (K := tkK T n (rn cBl T n pn5))
          refine J_aload_n dX10_readWinter_102 rfl ?_
          refine J_getR (r := some 164) dX10_readWinter_103 fX10_31 s158 (fun _ => rfl) (g158_16 hG) ?_
          refine J_iconstN (n := 4) dX10_readWinter_106 ?_
          refine J_iconstN (n := 4) dX10_readWinter_107 ?_
          refine J_iload_n dX10_readWinter_108 rfl ?_
          refine J_iaddN dX10_readWinter_109 ?_
          refine J_imulN dX10_readWinter_110 ?_
          refine J_iload_n dX10_readWinter_111 rfl ?_
          refine J_iaddN dX10_readWinter_112 ?_
          refine J_aload_n dX10_readWinter_113 rfl ?_
          refine J_getI dX10_readWinter_114 fX10_176 s158 (fun _ => rfl) ?_
          refine J_cvI (mn5.2.2.2.2) ?_
          refine J_iastN dX10_readWinter_117 s164 (by decide) (by omega) ?_
          have hA := hA.s (c := 164) (k := 4 * (4 + S.1 0 2 0) + 0) (x := nI Vn5) (inD_164 (by omega)) (by decide)
          have hS := hS.s (c := 164) (k := 4 * (4 + S.1 0 2 0) + 0) (x := nI Vn5) (by decide)
          have h7 := (rI_c (h := gn5) (c := 164) (k := 4 * (4 + S.1 0 2 0) + 0) (a := 160) (j := 7) (x := nI Vn5) (by decide)).trans h7
          refine J_iload_n dX10_readWinter_118 rfl ?_
          refine J_iload_n dX10_readWinter_119 rfl ?_
          refine J_if_le dX10_readWinter_120 (fun c0 => ?_) (fun c0 => absurd c0 (by decide))
          refine J_iconstN (n := 0) dX10_readWinter_130 ?_
          refine J_iaddN dX10_readWinter_131 ?_
          refine J_istore_n (L' := [some (pR (some 158)), some (pI (nI (S.1 0 2 0))), some (pI (nI (0 + 0))), some (pI (nI 0))]) dX10_readWinter_132 (by decide) rfl ?_
          refine J_iinc (y := nI 1) (L' := [some (pR (some 158)), some (pI (nI (S.1 0 2 0))), some (pI (nI (0 + 0))), some (pI (nI 1))]) dX10_readWinter_133 rfl (by decide) (by decide) rfl ?_
          refine J_goto dX10_readWinter_136 ?_
          refine J_iload_n dX10_readWinter_69 rfl ?_
          refine J_iconstN (n := 4) dX10_readWinter_70 ?_
          refine J_icmp_geN dX10_readWinter_71 (by decide) (by decide) (fun c0 => absurd c0 (by decide)) (fun c0 => ?_)
          refine J_iload_n dX10_readWinter_74 rfl ?_
          refine J_iconstN (n := 3) dX10_readWinter_75 ?_
          refine J_icmp_neN dX10_readWinter_76 (by decide) (by decide) (fun c0 => ?_) (fun c0 => absurd c0 (by decide))
          refine J_aload_n dX10_readWinter_90 rfl ?_
          refine J_iconstN (n := 0) dX10_readWinter_91 ?_
          refine J_bipush (x := nI 10) dX10_readWinter_92 (by decide) ?_
          refine J_cVI (ci := 10) (c := 158) (as := [pI (nI 0), pI (nI 10)]) (st := []) dX10_readWinter_94 lX10_199 okX10_readNumber vX10_readNumber s158 (by decide) rfl rfl rfl (Nat.le_of_ble_eq_true rfl) ⟨Nat.le_of_ble_eq_true rfl, Nat.le_of_ble_eq_true rfl⟩ CR.f (c_X10_readNumber (lo := 0) (hi := 10) hG hA.2.1.1 hA.1 (rn_le hA.2.1.2) (by decide) (by decide)) (fun vn7 gn7 en7 => ?_)
          have yn7 := en7.1
          subst yn7
          refine J_if_neB dX10_readWinter_97 (fun c8 => ?_) (fun c8 => ?_)
          · obtain ⟨pn7, Vn7, hA, mn7, bn7⟩ := hA.nx (fOf_N (k := 2) (c := 2) (lo := 0) (hi := 10) rfl rfl rfl (by decide) (by decide)) c8 en7
            have hG := mn7.g hG
            have hS := hS.mg mn7
            have h7 := (congrFun (mn7.1 160 (by decide)).1 7).trans h7
            have hst := stM_b (K := tkK T n (rn cBl T n pn7))
            refine J_aload_n dX10_readWinter_102 rfl ?_
            refine J_getR (r := some 164) dX10_readWinter_103 fX10_31 s158 (fun _ => rfl) (g158_16 hG) ?_
            refine J_iconstN (n := 4) dX10_readWinter_106 ?_
            refine J_iconstN (n := 4) dX10_readWinter_107 ?_
            refine J_iload_n dX10_readWinter_108 rfl ?_
            refine J_iaddN dX10_readWinter_109 ?_
            refine J_imulN dX10_readWinter_110 ?_
            refine J_iload_n dX10_readWinter_111 rfl ?_
            refine J_iaddN dX10_readWinter_112 ?_
            refine J_aload_n dX10_readWinter_113 rfl ?_
            refine J_getI dX10_readWinter_114 fX10_176 s158 (fun _ => rfl) ?_
            refine J_cvI (mn7.2.2.2.2) ?_
            refine J_iastN dX10_readWinter_117 s164 (by decide) (by omega) ?_
            have hA := hA.s (c := 164) (k := 4 * (4 + S.1 0 2 0) + 1) (x := nI Vn7) (inD_164 (by omega)) (by decide)
            have hS := hS.s (c := 164) (k := 4 * (4 + S.1 0 2 0) + 1) (x := nI Vn7) (by decide)
            have h7 := (rI_c (h := gn7) (c := 164) (k := 4 * (4 + S.1 0 2 0) + 1) (a := 160) (j := 7) (x := nI Vn7) (by decide)).trans h7
            refine J_iload_n dX10_readWinter_118 rfl ?_
            refine J_iload_n dX10_readWinter_119 rfl ?_
            refine J_if_le dX10_readWinter_120 (fun c0 => absurd c0 (by decide)) (fun c0 => ?_)
            refine J_aload_n dX10_readWinter_123 rfl ?_
            refine J_getI dX10_readWinter_124 fX10_176 s158 (fun _ => rfl) ?_
            refine J_cvI ((rI_c (by decide)).trans (mn7.2.2.2.2)) ?_
            refine J_goto dX10_readWinter_127 ?_
            refine J_iaddN dX10_readWinter_131 ?_
            refine J_istore_n (L' := [some (pR (some 158)), some (pI (nI (S.1 0 2 0))), some (pI (nI (0 + 0 + Vn7))), some (pI (nI 1))]) dX10_readWinter_132 (by decide) rfl ?_
            refine J_iinc (y := nI 2) (L' := [some (pR (some 158)), some (pI (nI (S.1 0 2 0))), some (pI (nI (0 + 0 + Vn7))), some (pI (nI 2))]) dX10_readWinter_133 rfl (by decide) (by decide) rfl ?_
            refine J_goto dX10_readWinter_136 ?_
            refine J_iload_n dX10_readWinter_69 rfl ?_
            refine J_iconstN (n := 4) dX10_readWinter_70 ?_
            refine J_icmp_geN dX10_readWinter_71 (by decide) (by decide) (fun c0 => absurd c0 (by decide)) (fun c0 => ?_)
            refine J_iload_n dX10_readWinter_74 rfl ?_
            refine J_iconstN (n := 3) dX10_readWinter_75 ?_
            refine J_icmp_neN dX10_readWinter_76 (by decide) (by decide) (fun c0 => ?_) (fun c0 => absurd c0 (by decide))
            refine J_aload_n dX10_readWinter_90 rfl ?_
            refine J_iconstN (n := 0) dX10_readWinter_91 ?_
            refine J_bipush (x := nI 10) dX10_readWinter_92 (by decide) ?_
            refine J_cVI (ci := 10) (c := 158) (as := [pI (nI 0), pI (nI 10)]) (st := []) dX10_readWinter_94 lX10_199 okX10_readNumber vX10_readNumber s158 (by decide) rfl rfl rfl (Nat.le_of_ble_eq_true rfl) ⟨Nat.le_of_ble_eq_true rfl, Nat.le_of_ble_eq_true rfl⟩ CR.f (c_X10_readNumber (lo := 0) (hi := 10) hG hA.2.1.1 hA.1 (rn_le hA.2.1.2) (by decide) (by decide)) (fun vn9 gn9 en9 => ?_)
            have yn9 := en9.1
            subst yn9
            refine J_if_neB dX10_readWinter_97 (fun c10 => ?_) (fun c10 => ?_)
            · obtain ⟨pn9, Vn9, hA, mn9, bn9⟩ := hA.nx (fOf_N (k := 2) (c := 3) (lo := 0) (hi := 10) rfl rfl rfl (by decide) (by decide)) c10 en9
              have hG := mn9.g hG
              have hS := hS.mg mn9
              have h7 := (congrFun (mn9.1 160 (by decide)).1 7).trans h7
              have hst := stM_b (K := tkK T n (rn cBl T n pn9))
              refine J_aload_n dX10_readWinter_102 rfl ?_
              refine J_getR (r := some 164) dX10_readWinter_103 fX10_31 s158 (fun _ => rfl) (g158_16 hG) ?_
              refine J_iconstN (n := 4) dX10_readWinter_106 ?_
              refine J_iconstN (n := 4) dX10_readWinter_107 ?_
              refine J_iload_n dX10_readWinter_108 rfl ?_
              refine J_iaddN dX10_readWinter_109 ?_
              refine J_imulN dX10_readWinter_110 ?_
              refine J_iload_n dX10_readWinter_111 rfl ?_
              refine J_iaddN dX10_readWinter_112 ?_
              refine J_aload_n dX10_readWinter_113 rfl ?_
              refine J_getI dX10_readWinter_114 fX10_176 s158 (fun _ => rfl) ?_
              refine J_cvI (mn9.2.2.2.2) ?_
              refine J_iastN dX10_readWinter_117 s164 (by decide) (by omega) ?_
              have hA := hA.s (c := 164) (k := 4 * (4 + S.1 0 2 0) + 2) (x := nI Vn9) (inD_164 (by omega)) (by decide)
              have hS := hS.s (c := 164) (k := 4 * (4 + S.1 0 2 0) + 2) (x := nI Vn9) (by decide)
              have h7 := (rI_c (h := gn9) (c := 164) (k := 4 * (4 + S.1 0 2 0) + 2) (a := 160) (j := 7) (x := nI Vn9) (by decide)).trans h7
              refine J_iload_n dX10_readWinter_118 rfl ?_
              refine J_iload_n dX10_readWinter_119 rfl ?_
              refine J_if_le dX10_readWinter_120 (fun c0 => absurd c0 (by decide)) (fun c0 => ?_)
              refine J_aload_n dX10_readWinter_123 rfl ?_
              refine J_getI dX10_readWinter_124 fX10_176 s158 (fun _ => rfl) ?_
              refine J_cvI ((rI_c (by decide)).trans (mn9.2.2.2.2)) ?_
              refine J_goto dX10_readWinter_127 ?_
              refine J_iaddN dX10_readWinter_131 ?_
              refine J_istore_n (L' := [some (pR (some 158)), some (pI (nI (S.1 0 2 0))), some (pI (nI (0 + 0 + Vn7 + Vn9))), some (pI (nI 2))]) dX10_readWinter_132 (by decide) rfl ?_
              refine J_iinc (y := nI 3) (L' := [some (pR (some 158)), some (pI (nI (S.1 0 2 0))), some (pI (nI (0 + 0 + Vn7 + Vn9))), some (pI (nI 3))]) dX10_readWinter_133 rfl (by decide) (by decide) rfl ?_
              refine J_goto dX10_readWinter_136 ?_
              refine J_iload_n dX10_readWinter_69 rfl ?_
              refine J_iconstN (n := 4) dX10_readWinter_70 ?_
              refine J_icmp_geN dX10_readWinter_71 (by decide) (by decide) (fun c0 => absurd c0 (by decide)) (fun c0 => ?_)
              refine J_iload_n dX10_readWinter_74 rfl ?_
              refine J_iconstN (n := 3) dX10_readWinter_75 ?_
              refine J_icmp_neN dX10_readWinter_76 (by decide) (by decide) (fun c0 => absurd c0 (by decide)) (fun c0 => ?_)
              refine J_aload_n dX10_readWinter_79 rfl ?_
              refine J_iload_n dX10_readWinter_80 rfl ?_
              refine J_cVI (ci := 10) (c := 158) (as := [pI (nI (0 + 0 + Vn7 + Vn9))]) (st := []) dX10_readWinter_81 lX10_196 okX10_readLast vX10_readLast s158 (by decide) rfl rfl rfl (Nat.le_of_ble_eq_true rfl) ⟨Nat.le_of_ble_eq_true rfl, Nat.le_of_ble_eq_true rfl⟩ CR.f (c_X10_readLast (m := 0 + 0 + Vn7 + Vn9) hG hA.2.1.1 hA.1 (rn_le hA.2.1.2) (by omega)) (fun vn11 gn11 en11 => ?_)
              have yn11 := en11.1
              subst yn11
              refine J_if_eqB dX10_readWinter_84 (fun c12 => ?_) (fun c12 => ?_)
              · refine J_iconstN (n := 0) dX10_readWinter_100 ?_
                exact J_retZ dX10_readWinter_101 rfl rfl (Or.inl ⟨rfl, hA.nb (fOf_L (k := 2) (c := 4) (m := 0 + 0 + Vn7 + Vn9) rfl rfl rfl (by decide) (by decide) (by show 0 + Vn7 + Vn9 = _; omega)) c12 en11⟩)
              · obtain ⟨pn11, Vn11, hA, mn11, bn11⟩ := hA.lx (fOf_L (k := 2) (c := 4) (m := 0 + 0 + Vn7 + Vn9) rfl rfl rfl (by decide) (by decide) (by show 0 + Vn7 + Vn9 = _; omega)) c12 en11
                have hG := mn11.g hG
                have hS := hS.mg mn11
                have h7 := (congrFun (mn11.1 160 (by decide)).1 7).trans h7
                have hst := stM_b (K := tkK T n (rn cBl T n pn11))
                refine J_goto dX10_readWinter_87 ?_
                refine J_aload_n dX10_readWinter_102 rfl ?_
                refine J_getR (r := some 164) dX10_readWinter_103 fX10_31 s158 (fun _ => rfl) (g158_16 hG) ?_
                refine J_iconstN (n := 4) dX10_readWinter_106 ?_
                refine J_iconstN (n := 4) dX10_readWinter_107 ?_
                refine J_iload_n dX10_readWinter_108 rfl ?_
                refine J_iaddN dX10_readWinter_109 ?_
                refine J_imulN dX10_readWinter_110 ?_
                refine J_iload_n dX10_readWinter_111 rfl ?_
                refine J_iaddN dX10_readWinter_112 ?_
                refine J_aload_n dX10_readWinter_113 rfl ?_
                refine J_getI dX10_readWinter_114 fX10_176 s158 (fun _ => rfl) ?_
                refine J_cvI (mn11.2.2.2.2) ?_
                refine J_iastN dX10_readWinter_117 s164 (by decide) (by omega) ?_
                have hA := hA.s (c := 164) (k := 4 * (4 + S.1 0 2 0) + 3) (x := nI Vn11) (inD_164 (by omega)) (by decide)
                have hS := hS.s (c := 164) (k := 4 * (4 + S.1 0 2 0) + 3) (x := nI Vn11) (by decide)
                have h7 := (rI_c (h := gn11) (c := 164) (k := 4 * (4 + S.1 0 2 0) + 3) (a := 160) (j := 7) (x := nI Vn11) (by decide)).trans h7
                refine J_iload_n dX10_readWinter_118 rfl ?_
                refine J_iload_n dX10_readWinter_119 rfl ?_
                refine J_if_le dX10_readWinter_120 (fun c0 => absurd c0 (by decide)) (fun c0 => ?_)
                refine J_aload_n dX10_readWinter_123 rfl ?_
                refine J_getI dX10_readWinter_124 fX10_176 s158 (fun _ => rfl) ?_
                refine J_cvI ((rI_c (by decide)).trans (mn11.2.2.2.2)) ?_
                refine J_goto dX10_readWinter_127 ?_
                refine J_iaddN dX10_readWinter_131 ?_
                refine J_istore_n (L' := [some (pR (some 158)), some (pI (nI (S.1 0 2 0))), some (pI (nI (0 + 0 + Vn7 + Vn9 + Vn11))), some (pI (nI 3))]) dX10_readWinter_132 (by decide) rfl ?_
                refine J_iinc (y := nI 4) (L' := [some (pR (some 158)), some (pI (nI (S.1 0 2 0))), some (pI (nI (0 + 0 + Vn7 + Vn9 + Vn11))), some (pI (nI 4))]) dX10_readWinter_133 rfl (by decide) (by decide) rfl ?_
                refine J_goto dX10_readWinter_136 ?_
                refine J_iload_n dX10_readWinter_69 rfl ?_
                refine J_iconstN (n := 4) dX10_readWinter_70 ?_
                refine J_icmp_geN dX10_readWinter_71 (by decide) (by decide) (fun c0 => ?_) (fun c0 => absurd c0 (by decide))
                refine J_aload_n dX10_readWinter_139 rfl ?_
                refine J_getR (r := some 160) dX10_readWinter_140 fX10_17 s158 (fun _ => rfl) ((xRI).trans (g158_12 hG)) ?_
                refine J_bipush (x := nI 7) dX10_readWinter_143 (by decide) ?_
                refine J_dup2 dX10_readWinter_145 rfl rfl ?_
                refine J_ialdN dX10_readWinter_146 s160 (by decide) (by omega) ?_
                refine J_cvI ((rI_c (by decide)).trans (h7)) ?_
                refine J_iconstN (n := 1) dX10_readWinter_147 ?_
                refine J_iaddN dX10_readWinter_148 ?_
                refine J_iastN dX10_readWinter_149 s160 (by decide) (by omega) ?_
                have hA := hA.s (c := 160) (k := 7) (x := nI (S.1 0 2 0 + 1)) (inD_160 (by omega)) (by decide)
                have hS := hS.s (c := 160) (k := 7) (x := nI (S.1 0 2 0 + 1)) (by decide)
                refine J_iconstN (n := 1) dX10_readWinter_150 ?_
                exact J_retZ dX10_readWinter_151 rfl rfl (Or.inr ⟨rfl, _, _, _, _, hA, rfl, (Md_win hD (by omega) (by rfl) hVb).sh hS, rfl⟩)
            · refine J_iconstN (n := 0) dX10_readWinter_100 ?_
              exact J_retZ dX10_readWinter_101 rfl rfl (Or.inl ⟨rfl, hA.nb (fOf_N (k := 2) (c := 3) (lo := 0) (hi := 10) rfl rfl rfl (by decide) (by decide)) c10 en9⟩)
          · refine J_iconstN (n := 0) dX10_readWinter_100 ?_
            exact J_retZ dX10_readWinter_101 rfl rfl (Or.inl ⟨rfl, hA.nb (fOf_N (k := 2) (c := 2) (lo := 0) (hi := 10) rfl rfl rfl (by decide) (by decide)) c8 en7⟩)
        · refine J_iconstN (n := 0) dX10_readWinter_100 ?_
          exact J_retZ dX10_readWinter_101 rfl rfl (Or.inl ⟨rfl, hA.nb (fOf_N (k := 2) (c := 1) (lo := 0) (hi := 10) rfl rfl rfl (by decide) (by decide)) c6 en5⟩)
      · refine J_aload_n dX10_readWinter_45 rfl ?_
        refine J_iconstN (n := 3) dX10_readWinter_46 ?_
        refine J_cVI (ci := 10) (c := 158) (as := [pI (nI 3)]) (st := []) dX10_readWinter_47 lX10_169 okX10_fails vX10_fails s158 (by decide) rfl rfl rfl (Nat.le_of_ble_eq_true rfl) ⟨Nat.le_of_ble_eq_true rfl, Nat.le_of_ble_eq_true rfl⟩ CR.f (c_X10_fails (k := 3) hA.1.2.2.1) (fun vf13 gf13 ef13 => ?_)
        rw [ef13.1, ef13.2]
        exact J_retZ dX10_readWinter_50 rfl rfl (Or.inl ⟨rfl, hA.wb (k := 2) (c := 0) rfl q2 (by rw [nF_k (by decide) (by decide)]; exact if_neg (fun y => d2 ((hlp_m1 (by omega)).mpr y))) (by decide)⟩)
    · refine J_aload_n dX10_readWinter_31 rfl ?_
      refine J_iconstN (n := 1) dX10_readWinter_32 ?_
      refine J_cVI (ci := 10) (c := 158) (as := [pI (nI 1)]) (st := []) dX10_readWinter_33 lX10_169 okX10_fails vX10_fails s158 (by decide) rfl rfl rfl (Nat.le_of_ble_eq_true rfl) ⟨Nat.le_of_ble_eq_true rfl, Nat.le_of_ble_eq_true rfl⟩ CR.f (c_X10_fails (k := 1) hA.1.2.2.1) (fun vf14 gf14 ef14 => ?_)
      rw [ef14.1, ef14.2]
      exact J_retZ dX10_readWinter_36 rfl rfl (Or.inl ⟨rfl, hA.w1 (k := 2) (c := 0) rfl (fun y => d1 ((st_1 tkK_b).mpr y))⟩)
  · refine J_aload_n dX10_readWinter_13 rfl ?_
    refine J_iconstN (n := 4) dX10_readWinter_14 ?_
    refine J_cVI (ci := 10) (c := 158) (as := [pI (nI 4)]) (st := []) dX10_readWinter_15 lX10_169 okX10_fails vX10_fails s158 (by decide) rfl rfl rfl (Nat.le_of_ble_eq_true rfl) ⟨Nat.le_of_ble_eq_true rfl, Nat.le_of_ble_eq_true rfl⟩ CR.f (c_X10_fails (k := 4) hA.1.2.2.1) (fun vf15 gf15 ef15 => ?_)
    rw [ef15.1, ef15.2]
    exact J_retZ dX10_readWinter_18 rfl rfl (Or.inl ⟨rfl, hA.kb hK hkw (by rw [kwFt_3, if_neg (by omega)]) (by decide)⟩)
theorem c_X10_readFamily {R : (Nat × Nat) × PS} {h0 h : PH} {T : Nat → Int32} {n p c : Nat} {num : Nat → Nat} {S : PS} (hG : GR h.2.2) (hA : At R h0 h T n (S, 0, c, num) p) (hD : Md h S) (hK : tkK T n (rn cBl T n p) = 2) (hkw : kw (tkV T n (rn cBl T n p)) = 7) : CtI mX10_readFamily h [pR (some 158)] (fun v h' => Rr R h0 h' T n 6 (S.1 0 5 0) v) := by
  have w4 : S.1 0 2 0 ≤ 4 := hA.2.2.1.1.1.1.2.2.1
  have t4 : S.1 0 3 0 ≤ 4 := hA.2.2.1.1.1.1.2.2.2.1
  have f6 : S.1 0 4 0 ≤ 6 := hA.2.2.1.1.1.1.2.2.2.2.1
  have h7 : h.1 160 9 = nI (S.1 0 4 0) := hD.1 4 (by decide)
  refine Ct.of (L := [some (pR (some 158)), none, none]) rfl rfl (Nat.le_of_ble_eq_true rfl) rfl ?_
  refine J_aload_n dX10_readFamily_0 rfl ?_
  refine J_getR (r := some 160) dX10_readFamily_1 fX10_17 s158 (fun _ => rfl) (g158_12 hG) ?_
  refine J_bipush (x := nI 9) dX10_readFamily_4 (by decide) ?_
  refine J_ialdN dX10_readFamily_6 s160 (by decide) (by omega) ?_
  refine J_cvI (h7) ?_
  refine J_istore_n (L' := [some (pR (some 158)), some (pI (nI (S.1 0 4 0))), none]) dX10_readFamily_7 (by decide) rfl ?_
  refine J_iload_n dX10_readFamily_8 rfl ?_
  refine J_bipush (x := nI 6) dX10_readFamily_9 (by decide) ?_
  refine J_icmp_neN dX10_readFamily_11 (by omega) (by omega) (fun d0 => ?_) (fun d0 => ?_)
  · refine J_aload_n dX10_readFamily_20 rfl ?_
    refine J_cVV (ci := 10) (c := 158) (as := []) (st := []) dX10_readFamily_21 lX10_179 okX10_scan vX10_scan s158 (by decide) rfl rfl rfl (Nat.le_of_ble_eq_true rfl) ⟨Nat.le_of_ble_eq_true rfl, Nat.le_of_ble_eq_true rfl⟩ CR.f (c_X10_scan hG hA.2.1.1 hA.1.2.2.2.1 (tkE_le (rn_le hA.2.1.2))) (fun gs1 es1 => ?_)
    obtain ⟨ps1, hA⟩ := (hA.kg hK hkw (by rw [kwFt_7, if_pos (by omega)]) es1.2 es1.1).x
    have hG := es1.1.g hG
    have hS : Sh gs1 h := Sh.rf.ms es1.1
    have hD1 := hD.sh hS
    have h7 : gs1.1 160 9 = nI (S.1 0 4 0) := hD1.1 4 (by decide)
    have hst := stM_b (K := tkK T n (rn cBl T n ps1))
    refine J_aload_n dX10_readFamily_24 rfl ?_
    refine J_getI dX10_readFamily_25 fX10_141 s158 (fun _ => rfl) ?_
    refine J_cvI (hA.1.1) ?_
    refine J_iconstN (n := 1) dX10_readFamily_28 ?_
    refine J_icmp_eqN dX10_readFamily_29 (by omega) (by omega) (fun d1 => ?_) (fun d1 => ?_)
    · have q2 := (st_1 tkK_b).mp d1
      have hw := hA.1.2.2.2.2.1 q2
      have hVb := tkV_40 q2
      refine J_aload_n dX10_readFamily_38 rfl ?_
      refine J_cVI (ci := 10) (c := 158) (as := []) (st := []) dX10_readFamily_39 lX10_206 okX10_familyNamed vX10_familyNamed s158 (by decide) rfl rfl rfl (Nat.le_of_ble_eq_true rfl) ⟨Nat.le_of_ble_eq_true rfl, Nat.le_of_ble_eq_true rfl⟩ CR.f (c_X10_familyNamed (V := tkV T n (rn cBl T n ps1)) (c := S.1 0 4 0) (g := S.2.1 6) hG h7 f6 hD1.2.2.2.2.2.2.2.2.1.2.2 hw (tkV_40 q2)) (fun vq3 gq3 eq3 => ?_)
      rw [eq3.2, eq3.1]
      have hfd := fdN_le (g := S.2.1 6) (V := tkV T n (rn cBl T n ps1)) (S.1 0 4 0)
      refine J_iconst (x := -1) dX10_readFamily_42 (by decide) ?_
      refine J_icmp_eq dX10_readFamily_43 (fun d2 => ?_) (fun d2 => ?_)
      · have zn : nameF S 6 0 (tkV T n (rn cBl T n ps1)) num = 0 := (by rw [nF_k (by decide) (by decide)]; exact if_pos ((hlp_m1 (by omega)).mp d2))
        refine J_aload_n dX10_readFamily_52 rfl ?_
        refine J_getR (r := some 163) dX10_readFamily_53 fX10_28 s158 (fun _ => rfl) (g158_15 hG) ?_
        refine J_iload_n dX10_readFamily_56 rfl ?_
        refine J_aload_n dX10_readFamily_57 rfl ?_
        refine J_getL dX10_readFamily_58 fX10_148 s158 (fun _ => rfl) ?_
        refine J_cvL (hw) ?_
        refine J_lastN dX10_readFamily_61 s163 (by decide) (by omega) ?_
        refine J_aload_n dX10_readFamily_62 rfl ?_
        refine J_cVV (ci := 10) (c := 158) (as := []) (st := []) dX10_readFamily_63 lX10_179 okX10_scan vX10_scan s158 (by decide) rfl rfl rfl (Nat.le_of_ble_eq_true rfl) ⟨Nat.le_of_ble_eq_true rfl, Nat.le_of_ble_eq_true rfl⟩ CR.f (c_X10_scan (h := sL (gs1) 163 (S.1 0 4 0) (lN (tkV T n (rn cBl T n ps1)))) hG hA.2.1.1 hA.1.2.2.2.1 (tkE_le (rn_le hA.2.1.2))) (fun gs2 es2 => ?_)
        have hS : Sh gs2 (sL h 163 (S.1 0 4 0) (lN (tkV T n (rn cBl T n ps1)))) := (hS.sl (by decide)).ms es2.1
        have hB : Mt (sL (gs1) 163 (S.1 0 4 0) (lN (tkV T n (rn cBl T n ps1)))) T n := hA.2.1.1
        obtain ⟨ps2, hA⟩ := (hA.w (k := 6) (c := 0) rfl q2 zn es2.2 (hB.ms es2.1) ((hA.2.2.2.2.sl (by decide)).ms es2.1)).x
        have hG := es2.1.g hG
        have h7 : gs2.1 160 9 = nI (S.1 0 4 0) := (congrFun (es2.1.1 160 (by decide)).1 9).trans h7
        have hst := stM_b (K := tkK T n (rn cBl T n ps2))
        refine J_iconstN (n := 0) dX10_readFamily_66 ?_
        refine J_istore_n (L' := [some (pR (some 158)), some (pI (nI (S.1 0 4 0))), some (pI (nI 0))]) dX10_readFamily_67 (by decide) rfl ?_
        refine J_iload_n dX10_readFamily_68 rfl ?_
        refine J_iconstN (n := 3) dX10_readFamily_69 ?_
        refine J_icmp_geN dX10_readFamily_70 (by decide) (by decide) (fun c0 => absurd c0 (by decide)) (fun c0 => ?_)
        refine J_iload_n dX10_readFamily_73 rfl ?_
        refine J_if_ne dX10_readFamily_74 (fun c0 => absurd c0 (by decide)) (fun c0 => ?_)
        refine J_aload_n dX10_readFamily_77 rfl ?_
        refine J_iconstN (n := 0) dX10_readFamily_78 ?_
        refine J_bipush (x := nI 10) dX10_readFamily_79 (by decide) ?_
        refine J_cVI (ci := 10) (c := 158) (as := [pI (nI 0), pI (nI 10)]) (st := []) dX10_readFamily_81 lX10_199 okX10_readNumber vX10_readNumber s158 (by decide) rfl rfl rfl (Nat.le_of_ble_eq_true rfl) ⟨Nat.le_of_ble_eq_true rfl, Nat.le_of_ble_eq_true rfl⟩ CR.f (c_X10_readNumber (lo := 0) (hi := 10) hG hA.2.1.1 hA.1 (rn_le hA.2.1.2) (by decide) (by decide)) (fun vn5 gn5 en5 => ?_)
        have yn5 := en5.1
        subst yn5
        refine J_if_eqB dX10_readFamily_84 (fun c6 => ?_) (fun c6 => ?_)
        · refine J_iconstN (n := 0) dX10_readFamily_120 ?_
          exact J_retZ dX10_readFamily_121 rfl rfl (Or.inl ⟨rfl, hA.nb (fOf_N (k := 6) (c := 1) (lo := 0) (hi := 10) rfl rfl rfl (by decide) (by decide)) c6 en5⟩)
        · obtain ⟨pn5, Vn5, hA, mn5, bn5⟩ := hA.nx (fOf_N (k := 6) (c := 1) (lo := 0) (hi := 10) rfl rfl rfl (by decide) (by decide)) c6 en5
          have hG := mn5.g hG
          have hS := hS.mg mn5
          have h7 := (congrFun (mn5.1 160 (by decide)).1 9).trans h7
          have hst := stM_b (K := tkK T n (rn cBl T n pn5))
          refine J_goto dX10_readFamily_87 ?_
          refine J_aload_n dX10_readFamily_122 rfl ?_
          refine J_getR (r := some 170) dX10_readFamily_123 fX10_50 s158 (fun _ => rfl) (g158_22 hG) ?_
          refine J_iconstN (n := 3) dX10_readFamily_126 ?_
          refine J_bipush (x := nI 6) dX10_readFamily_127 (by decide) ?_
          refine J_iload_n dX10_readFamily_129 rfl ?_
          refine J_iaddN dX10_readFamily_130 ?_
          refine J_imulN dX10_readFamily_131 ?_
          refine J_iload_n dX10_readFamily_132 rfl ?_
          refine J_iaddN dX10_readFamily_133 ?_
          refine J_aload_n dX10_readFamily_134 rfl ?_
          refine J_getI dX10_readFamily_135 fX10_176 s158 (fun _ => rfl) ?_
          refine J_cvI (mn5.2.2.2.2) ?_
          refine J_iastN dX10_readFamily_138 s170 (by decide) (by omega) ?_
          have hA := hA.s (c := 170) (k := 3 * (6 + S.1 0 4 0) + 0) (x := nI Vn5) (inD_170 (by omega)) (by decide)
          have hS := hS.s (c := 170) (k := 3 * (6 + S.1 0 4 0) + 0) (x := nI Vn5) (by decide)
          have h7 := (rI_c (h := gn5) (c := 170) (k := 3 * (6 + S.1 0 4 0) + 0) (a := 160) (j := 9) (x := nI Vn5) (by decide)).trans h7
          refine J_iinc (y := nI 1) (L' := [some (pR (some 158)), some (pI (nI (S.1 0 4 0))), some (pI (nI 1))]) dX10_readFamily_139 rfl (by decide) (by decide) rfl ?_
          refine J_goto dX10_readFamily_142 ?_
          refine J_iload_n dX10_readFamily_68 rfl ?_
          refine J_iconstN (n := 3) dX10_readFamily_69 ?_
          refine J_icmp_geN dX10_readFamily_70 (by decide) (by decide) (fun c0 => absurd c0 (by decide)) (fun c0 => ?_)
          refine J_iload_n dX10_readFamily_73 rfl ?_
          refine J_if_ne dX10_readFamily_74 (fun c0 => ?_) (fun c0 => absurd c0 (by decide))
          refine J_iload_n dX10_readFamily_90 rfl ?_
          refine J_iconstN (n := 1) dX10_readFamily_91 ?_
          refine J_icmp_neN dX10_readFamily_92 (by decide) (by decide) (fun c0 => absurd c0 (by decide)) (fun c0 => ?_)
          refine J_aload_n dX10_readFamily_95 rfl ?_
          refine J_iconstN (n := 1) dX10_readFamily_96 ?_
          refine J_sipush (x := nI 500) dX10_readFamily_97 (by decide) ?_
          refine J_cVI (ci := 10) (c := 158) (as := [pI (nI 1), pI (nI 500)]) (st := []) dX10_readFamily_100 lX10_199 okX10_readNumber vX10_readNumber s158 (by decide) rfl rfl rfl (Nat.le_of_ble_eq_true rfl) ⟨Nat.le_of_ble_eq_true rfl, Nat.le_of_ble_eq_true rfl⟩ CR.f (c_X10_readNumber (lo := 1) (hi := 500) hG hA.2.1.1 hA.1 (rn_le hA.2.1.2) (by decide) (by decide)) (fun vn7 gn7 en7 => ?_)
          have yn7 := en7.1
          subst yn7
          refine J_if_eqB dX10_readFamily_103 (fun c8 => ?_) (fun c8 => ?_)
          · refine J_iconstN (n := 0) dX10_readFamily_120 ?_
            exact J_retZ dX10_readFamily_121 rfl rfl (Or.inl ⟨rfl, hA.nb (fOf_N (k := 6) (c := 2) (lo := 1) (hi := 500) rfl rfl rfl (by decide) (by decide)) c8 en7⟩)
          · obtain ⟨pn7, Vn7, hA, mn7, bn7⟩ := hA.nx (fOf_N (k := 6) (c := 2) (lo := 1) (hi := 500) rfl rfl rfl (by decide) (by decide)) c8 en7
            have hG := mn7.g hG
            have hS := hS.mg mn7
            have h7 := (congrFun (mn7.1 160 (by decide)).1 9).trans h7
            have hst := stM_b (K := tkK T n (rn cBl T n pn7))
            refine J_goto dX10_readFamily_106 ?_
            refine J_aload_n dX10_readFamily_122 rfl ?_
            refine J_getR (r := some 170) dX10_readFamily_123 fX10_50 s158 (fun _ => rfl) (g158_22 hG) ?_
            refine J_iconstN (n := 3) dX10_readFamily_126 ?_
            refine J_bipush (x := nI 6) dX10_readFamily_127 (by decide) ?_
            refine J_iload_n dX10_readFamily_129 rfl ?_
            refine J_iaddN dX10_readFamily_130 ?_
            refine J_imulN dX10_readFamily_131 ?_
            refine J_iload_n dX10_readFamily_132 rfl ?_
            refine J_iaddN dX10_readFamily_133 ?_
            refine J_aload_n dX10_readFamily_134 rfl ?_
            refine J_getI dX10_readFamily_135 fX10_176 s158 (fun _ => rfl) ?_
            refine J_cvI (mn7.2.2.2.2) ?_
            refine J_iastN dX10_readFamily_138 s170 (by decide) (by omega) ?_
            have hA := hA.s (c := 170) (k := 3 * (6 + S.1 0 4 0) + 1) (x := nI Vn7) (inD_170 (by omega)) (by decide)
            have hS := hS.s (c := 170) (k := 3 * (6 + S.1 0 4 0) + 1) (x := nI Vn7) (by decide)
            have h7 := (rI_c (h := gn7) (c := 170) (k := 3 * (6 + S.1 0 4 0) + 1) (a := 160) (j := 9) (x := nI Vn7) (by decide)).trans h7
            refine J_iinc (y := nI 2) (L' := [some (pR (some 158)), some (pI (nI (S.1 0 4 0))), some (pI (nI 2))]) dX10_readFamily_139 rfl (by decide) (by decide) rfl ?_
            refine J_goto dX10_readFamily_142 ?_
            refine J_iload_n dX10_readFamily_68 rfl ?_
            refine J_iconstN (n := 3) dX10_readFamily_69 ?_
            refine J_icmp_geN dX10_readFamily_70 (by decide) (by decide) (fun c0 => absurd c0 (by decide)) (fun c0 => ?_)
            refine J_iload_n dX10_readFamily_73 rfl ?_
            refine J_if_ne dX10_readFamily_74 (fun c0 => ?_) (fun c0 => absurd c0 (by decide))
            refine J_iload_n dX10_readFamily_90 rfl ?_
            refine J_iconstN (n := 1) dX10_readFamily_91 ?_
            refine J_icmp_neN dX10_readFamily_92 (by decide) (by decide) (fun c0 => ?_) (fun c0 => absurd c0 (by decide))
            refine J_aload_n dX10_readFamily_109 rfl ?_
            refine J_iconstN (n := 0) dX10_readFamily_110 ?_
            refine J_sipush (x := nI 500) dX10_readFamily_111 (by decide) ?_
            refine J_cVI (ci := 10) (c := 158) (as := [pI (nI 0), pI (nI 500)]) (st := []) dX10_readFamily_114 lX10_199 okX10_readNumber vX10_readNumber s158 (by decide) rfl rfl rfl (Nat.le_of_ble_eq_true rfl) ⟨Nat.le_of_ble_eq_true rfl, Nat.le_of_ble_eq_true rfl⟩ CR.f (c_X10_readNumber (lo := 0) (hi := 500) hG hA.2.1.1 hA.1 (rn_le hA.2.1.2) (by decide) (by decide)) (fun vn9 gn9 en9 => ?_)
            have yn9 := en9.1
            subst yn9
            refine J_if_neB dX10_readFamily_117 (fun c10 => ?_) (fun c10 => ?_)
            · obtain ⟨pn9, Vn9, hA, mn9, bn9⟩ := hA.nx (fOf_N (k := 6) (c := 3) (lo := 0) (hi := 500) rfl rfl rfl (by decide) (by decide)) c10 en9
              have hG := mn9.g hG
              have hS := hS.mg mn9
              have h7 := (congrFun (mn9.1 160 (by decide)).1 9).trans h7
              have hst := stM_b (K := tkK T n (rn cBl T n pn9))
              refine J_aload_n dX10_readFamily_122 rfl ?_
              refine J_getR (r := some 170) dX10_readFamily_123 fX10_50 s158 (fun _ => rfl) (g158_22 hG) ?_
              refine J_iconstN (n := 3) dX10_readFamily_126 ?_
              refine J_bipush (x := nI 6) dX10_readFamily_127 (by decide) ?_
              refine J_iload_n dX10_readFamily_129 rfl ?_
              refine J_iaddN dX10_readFamily_130 ?_
              refine J_imulN dX10_readFamily_131 ?_
              refine J_iload_n dX10_readFamily_132 rfl ?_
              refine J_iaddN dX10_readFamily_133 ?_
              refine J_aload_n dX10_readFamily_134 rfl ?_
              refine J_getI dX10_readFamily_135 fX10_176 s158 (fun _ => rfl) ?_
              refine J_cvI (mn9.2.2.2.2) ?_
              refine J_iastN dX10_readFamily_138 s170 (by decide) (by omega) ?_
              have hA := hA.s (c := 170) (k := 3 * (6 + S.1 0 4 0) + 2) (x := nI Vn9) (inD_170 (by omega)) (by decide)
              have hS := hS.s (c := 170) (k := 3 * (6 + S.1 0 4 0) + 2) (x := nI Vn9) (by decide)
              have h7 := (rI_c (h := gn9) (c := 170) (k := 3 * (6 + S.1 0 4 0) + 2) (a := 160) (j := 9) (x := nI Vn9) (by decide)).trans h7
              refine J_iinc (y := nI 3) (L' := [some (pR (some 158)), some (pI (nI (S.1 0 4 0))), some (pI (nI 3))]) dX10_readFamily_139 rfl (by decide) (by decide) rfl ?_
              refine J_goto dX10_readFamily_142 ?_
              refine J_iload_n dX10_readFamily_68 rfl ?_
              refine J_iconstN (n := 3) dX10_readFamily_69 ?_
              refine J_icmp_geN dX10_readFamily_70 (by decide) (by decide) (fun c0 => ?_) (fun c0 => absurd c0 (by decide))
              refine J_aload_n dX10_readFamily_145 rfl ?_
              refine J_getR (r := some 160) dX10_readFamily_146 fX10_17 s158 (fun _ => rfl) ((xRI).trans (g158_12 hG)) ?_
              refine J_bipush (x := nI 9) dX10_readFamily_149 (by decide) ?_
              refine J_dup2 dX10_readFamily_151 rfl rfl ?_
              refine J_ialdN dX10_readFamily_152 s160 (by decide) (by omega) ?_
              refine J_cvI ((rI_c (by decide)).trans (h7)) ?_
              refine J_iconstN (n := 1) dX10_readFamily_153 ?_
              refine J_iaddN dX10_readFamily_154 ?_
              refine J_iastN dX10_readFamily_155 s160 (by decide) (by omega) ?_
              have hA := hA.s (c := 160) (k := 9) (x := nI (S.1 0 4 0 + 1)) (inD_160 (by omega)) (by decide)
              have hS := hS.s (c := 160) (k := 9) (x := nI (S.1 0 4 0 + 1)) (by decide)
              refine J_iconstN (n := 1) dX10_readFamily_156 ?_
              exact J_retZ dX10_readFamily_157 rfl rfl (Or.inr ⟨rfl, _, _, _, _, hA, rfl, (Md_fam hD (by omega) (by rfl) hVb).sh hS, rfl⟩)
            · refine J_iconstN (n := 0) dX10_readFamily_120 ?_
              exact J_retZ dX10_readFamily_121 rfl rfl (Or.inl ⟨rfl, hA.nb (fOf_N (k := 6) (c := 3) (lo := 0) (hi := 500) rfl rfl rfl (by decide) (by decide)) c10 en9⟩)
      · refine J_aload_n dX10_readFamily_46 rfl ?_
        refine J_iconstN (n := 3) dX10_readFamily_47 ?_
        refine J_cVI (ci := 10) (c := 158) (as := [pI (nI 3)]) (st := []) dX10_readFamily_48 lX10_169 okX10_fails vX10_fails s158 (by decide) rfl rfl rfl (Nat.le_of_ble_eq_true rfl) ⟨Nat.le_of_ble_eq_true rfl, Nat.le_of_ble_eq_true rfl⟩ CR.f (c_X10_fails (k := 3) hA.1.2.2.1) (fun vf11 gf11 ef11 => ?_)
        rw [ef11.1, ef11.2]
        exact J_retZ dX10_readFamily_51 rfl rfl (Or.inl ⟨rfl, hA.wb (k := 6) (c := 0) rfl q2 (by rw [nF_k (by decide) (by decide)]; exact if_neg (fun y => d2 ((hlp_m1 (by omega)).mpr y))) (by decide)⟩)
    · refine J_aload_n dX10_readFamily_32 rfl ?_
      refine J_iconstN (n := 1) dX10_readFamily_33 ?_
      refine J_cVI (ci := 10) (c := 158) (as := [pI (nI 1)]) (st := []) dX10_readFamily_34 lX10_169 okX10_fails vX10_fails s158 (by decide) rfl rfl rfl (Nat.le_of_ble_eq_true rfl) ⟨Nat.le_of_ble_eq_true rfl, Nat.le_of_ble_eq_true rfl⟩ CR.f (c_X10_fails (k := 1) hA.1.2.2.1) (fun vf12 gf12 ef12 => ?_)
      rw [ef12.1, ef12.2]
      exact J_retZ dX10_readFamily_37 rfl rfl (Or.inl ⟨rfl, hA.w1 (k := 6) (c := 0) rfl (fun y => d1 ((st_1 tkK_b).mpr y))⟩)
  · refine J_aload_n dX10_readFamily_14 rfl ?_
    refine J_iconstN (n := 4) dX10_readFamily_15 ?_
    refine J_cVI (ci := 10) (c := 158) (as := [pI (nI 4)]) (st := []) dX10_readFamily_16 lX10_169 okX10_fails vX10_fails s158 (by decide) rfl rfl rfl (Nat.le_of_ble_eq_true rfl) ⟨Nat.le_of_ble_eq_true rfl, Nat.le_of_ble_eq_true rfl⟩ CR.f (c_X10_fails (k := 4) hA.1.2.2.1) (fun vf13 gf13 ef13 => ?_)
    rw [ef13.1, ef13.2]
    exact J_retZ dX10_readFamily_19 rfl rfl (Or.inl ⟨rfl, hA.kb hK hkw (by rw [kwFt_7, if_neg (by omega)]) (by decide)⟩)
theorem c_X10_readThing {R : (Nat × Nat) × PS} {h0 h : PH} {T : Nat → Int32} {n p c : Nat} {num : Nat → Nat} {S : PS} (hG : GR h.2.2) (hA : At R h0 h T n (S, 0, c, num) p) (hD : Md h S) (hK : tkK T n (rn cBl T n p) = 2) (hkw : kw (tkV T n (rn cBl T n p)) = 4) : CtI mX10_readThing h [pR (some 158)] (fun v h' => Rr R h0 h' T n 3 (S.1 0 5 0) v) := by
  have w4 : S.1 0 2 0 ≤ 4 := hA.2.2.1.1.1.1.2.2.1
  have t4 : S.1 0 3 0 ≤ 4 := hA.2.2.1.1.1.1.2.2.2.1
  have f6 : S.1 0 4 0 ≤ 6 := hA.2.2.1.1.1.1.2.2.2.2.1
  have h7 : h.1 160 8 = nI (S.1 0 3 0) := hD.1 3 (by decide)
  refine Ct.of (L := [some (pR (some 158)), none, none, none]) rfl rfl (Nat.le_of_ble_eq_true rfl) rfl ?_
  refine J_aload_n dX10_readThing_0 rfl ?_
  refine J_getR (r := some 160) dX10_readThing_1 fX10_17 s158 (fun _ => rfl) (g158_12 hG) ?_
  refine J_bipush (x := nI 8) dX10_readThing_4 (by decide) ?_
  refine J_ialdN dX10_readThing_6 s160 (by decide) (by omega) ?_
  refine J_cvI (h7) ?_
  refine J_istore_n (L' := [some (pR (some 158)), some (pI (nI (S.1 0 3 0))), none, none]) dX10_readThing_7 (by decide) rfl ?_
  refine J_iload_n dX10_readThing_8 rfl ?_
  refine J_iconstN (n := 4) dX10_readThing_9 ?_
  refine J_icmp_neN dX10_readThing_10 (by omega) (by omega) (fun d0 => ?_) (fun d0 => ?_)
  · refine J_aload_n dX10_readThing_19 rfl ?_
    refine J_cVV (ci := 10) (c := 158) (as := []) (st := []) dX10_readThing_20 lX10_179 okX10_scan vX10_scan s158 (by decide) rfl rfl rfl (Nat.le_of_ble_eq_true rfl) ⟨Nat.le_of_ble_eq_true rfl, Nat.le_of_ble_eq_true rfl⟩ CR.f (c_X10_scan hG hA.2.1.1 hA.1.2.2.2.1 (tkE_le (rn_le hA.2.1.2))) (fun gs1 es1 => ?_)
    obtain ⟨ps1, hA⟩ := (hA.kg hK hkw (by rw [kwFt_4, if_pos (by omega)]) es1.2 es1.1).x
    have hG := es1.1.g hG
    have hS : Sh gs1 h := Sh.rf.ms es1.1
    have hD1 := hD.sh hS
    have h7 : gs1.1 160 8 = nI (S.1 0 3 0) := hD1.1 3 (by decide)
    have hst := stM_b (K := tkK T n (rn cBl T n ps1))
    refine J_aload_n dX10_readThing_23 rfl ?_
    refine J_getI dX10_readThing_24 fX10_141 s158 (fun _ => rfl) ?_
    refine J_cvI (hA.1.1) ?_
    refine J_iconstN (n := 1) dX10_readThing_27 ?_
    refine J_icmp_eqN dX10_readThing_28 (by omega) (by omega) (fun d1 => ?_) (fun d1 => ?_)
    · have q2 := (st_1 tkK_b).mp d1
      have hw := hA.1.2.2.2.2.1 q2
      have hVb := tkV_40 q2
      refine J_aload_n dX10_readThing_37 rfl ?_
      refine J_cVI (ci := 10) (c := 158) (as := []) (st := []) dX10_readThing_38 lX10_203 okX10_thingNamed vX10_thingNamed s158 (by decide) rfl rfl rfl (Nat.le_of_ble_eq_true rfl) ⟨Nat.le_of_ble_eq_true rfl, Nat.le_of_ble_eq_true rfl⟩ CR.f (c_X10_thingNamed (V := tkV T n (rn cBl T n ps1)) (c := S.1 0 3 0) (g := S.2.1 3) hG h7 t4 hD1.2.2.2.2.2.2.2.2.1.2.1 hw (tkV_40 q2)) (fun vq3 gq3 eq3 => ?_)
      rw [eq3.2, eq3.1]
      have hfd := fdN_le (g := S.2.1 3) (V := tkV T n (rn cBl T n ps1)) (S.1 0 3 0)
      refine J_iconst (x := -1) dX10_readThing_41 (by decide) ?_
      refine J_icmp_eq dX10_readThing_42 (fun d2 => ?_) (fun d2 => ?_)
      · have zn : nameF S 3 0 (tkV T n (rn cBl T n ps1)) num = 0 := (by rw [nF_k (by decide) (by decide)]; exact if_pos ((hlp_m1 (by omega)).mp d2))
        refine J_aload_n dX10_readThing_51 rfl ?_
        refine J_getR (r := some 162) dX10_readThing_52 fX10_25 s158 (fun _ => rfl) (g158_14 hG) ?_
        refine J_iload_n dX10_readThing_55 rfl ?_
        refine J_aload_n dX10_readThing_56 rfl ?_
        refine J_getL dX10_readThing_57 fX10_148 s158 (fun _ => rfl) ?_
        refine J_cvL (hw) ?_
        refine J_lastN dX10_readThing_60 s162 (by decide) (by omega) ?_
        refine J_aload_n dX10_readThing_61 rfl ?_
        refine J_cVV (ci := 10) (c := 158) (as := []) (st := []) dX10_readThing_62 lX10_179 okX10_scan vX10_scan s158 (by decide) rfl rfl rfl (Nat.le_of_ble_eq_true rfl) ⟨Nat.le_of_ble_eq_true rfl, Nat.le_of_ble_eq_true rfl⟩ CR.f (c_X10_scan (h := sL (gs1) 162 (S.1 0 3 0) (lN (tkV T n (rn cBl T n ps1)))) hG hA.2.1.1 hA.1.2.2.2.1 (tkE_le (rn_le hA.2.1.2))) (fun gs2 es2 => ?_)
        have hS : Sh gs2 (sL h 162 (S.1 0 3 0) (lN (tkV T n (rn cBl T n ps1)))) := (hS.sl (by decide)).ms es2.1
        have hB : Mt (sL (gs1) 162 (S.1 0 3 0) (lN (tkV T n (rn cBl T n ps1)))) T n := hA.2.1.1
        obtain ⟨ps2, hA⟩ := (hA.w (k := 3) (c := 0) rfl q2 zn es2.2 (hB.ms es2.1) ((hA.2.2.2.2.sl (by decide)).ms es2.1)).x
        have hG := es2.1.g hG
        have h7 : gs2.1 160 8 = nI (S.1 0 3 0) := (congrFun (es2.1.1 160 (by decide)).1 8).trans h7
        have hst := stM_b (K := tkK T n (rn cBl T n ps2))
        refine J_iconstN (n := 0) dX10_readThing_65 ?_
        refine J_istore_n (L' := [some (pR (some 158)), some (pI (nI (S.1 0 3 0))), some (pI (nI 0)), none]) dX10_readThing_66 (by decide) rfl ?_
        refine J_iload_n dX10_readThing_67 rfl ?_
        refine J_bipush (x := nI 6) dX10_readThing_68 (by decide) ?_
        refine J_icmp_geN dX10_readThing_70 (by decide) (by decide) (fun c0 => absurd c0 (by decide)) (fun c0 => ?_)
        refine J_iload_n dX10_readThing_73 rfl ?_
        refine J_iconstN (n := 5) dX10_readThing_74 ?_
        refine J_icmp_neN dX10_readThing_75 (by decide) (by decide) (fun c0 => ?_) (fun c0 => absurd c0 (by decide))
        refine J_iconstN (n := 0) dX10_readThing_82 ?_
        refine J_istore_n (L' := [some (pR (some 158)), some (pI (nI (S.1 0 3 0))), some (pI (nI 0)), some (pI (nI 0))]) dX10_readThing_83 (by decide) rfl ?_
        refine J_iload_n dX10_readThing_84 rfl ?_
        refine J_if_ne dX10_readThing_85 (fun c0 => absurd c0 (by decide)) (fun c0 => ?_)
        refine J_aload_n dX10_readThing_88 rfl ?_
        refine J_iconstN (n := 1) dX10_readThing_89 ?_
        refine J_bipush (x := nI 9) dX10_readThing_90 (by decide) ?_
        refine J_cVI (ci := 10) (c := 158) (as := [pI (nI 1), pI (nI 9)]) (st := []) dX10_readThing_92 lX10_199 okX10_readNumber vX10_readNumber s158 (by decide) rfl rfl rfl (Nat.le_of_ble_eq_true rfl) ⟨Nat.le_of_ble_eq_true rfl, Nat.le_of_ble_eq_true rfl⟩ CR.f (c_X10_readNumber (lo := 1) (hi := 9) hG hA.2.1.1 hA.1 (rn_le hA.2.1.2) (by decide) (by decide)) (fun vn5 gn5 en5 => ?_)
        have yn5 := en5.1
        subst yn5
        refine J_if_eqB dX10_readThing_95 (fun c6 => ?_) (fun c6 => ?_)
        · refine J_iconstN (n := 0) dX10_readThing_170 ?_
          exact J_retZ dX10_readThing_171 rfl rfl (Or.inl ⟨rfl, hA.nb (fOf_N (k := 3) (c := 1) (lo := 1) (hi := 9) rfl rfl rfl (by decide) (by decide)) c6 en5⟩)
        · obtain ⟨pn5, Vn5, hA, mn5, bn5⟩ := hA.nx (fOf_N (k := 3) (c := 1) (lo := 1) (hi := 9) rfl rfl rfl (by decide) (by decide)) c6 en5
          have hG := mn5.g hG
          have hS := hS.mg mn5
          have h7 := (congrFun (mn5.1 160 (by decide)).1 8).trans h7
          have hst := stM_b (K := tkK T n (rn cBl T n pn5))
          refine J_goto dX10_readThing_98 ?_
          refine J_aload_n dX10_readThing_172 rfl ?_
          refine J_getR (r := some 165) dX10_readThing_173 fX10_34 s158 (fun _ => rfl) (g158_17 hG) ?_
          refine J_bipush (x := nI 6) dX10_readThing_176 (by decide) ?_
          refine J_iconstN (n := 4) dX10_readThing_178 ?_
          refine J_iload_n dX10_readThing_179 rfl ?_
          refine J_iaddN dX10_readThing_180 ?_
          refine J_imulN dX10_readThing_181 ?_
          refine J_iload_n dX10_readThing_182 rfl ?_
          refine J_iaddN dX10_readThing_183 ?_
          refine J_aload_n dX10_readThing_184 rfl ?_
          refine J_getI dX10_readThing_185 fX10_176 s158 (fun _ => rfl) ?_
          refine J_cvI (mn5.2.2.2.2) ?_
          refine J_iastN dX10_readThing_188 s165 (by decide) (by omega) ?_
          have hA := hA.s (c := 165) (k := 6 * (4 + S.1 0 3 0) + 0) (x := nI Vn5) (inD_165 (by omega)) (by decide)
          have hS := hS.s (c := 165) (k := 6 * (4 + S.1 0 3 0) + 0) (x := nI Vn5) (by decide)
          have h7 := (rI_c (h := gn5) (c := 165) (k := 6 * (4 + S.1 0 3 0) + 0) (a := 160) (j := 8) (x := nI Vn5) (by decide)).trans h7
          refine J_iinc (y := nI 1) (L' := [some (pR (some 158)), some (pI (nI (S.1 0 3 0))), some (pI (nI 1)), some (pI (nI 0))]) dX10_readThing_189 rfl (by decide) (by decide) rfl ?_
          refine J_goto dX10_readThing_192 ?_
          refine J_iload_n dX10_readThing_67 rfl ?_
          refine J_bipush (x := nI 6) dX10_readThing_68 (by decide) ?_
          refine J_icmp_geN dX10_readThing_70 (by decide) (by decide) (fun c0 => absurd c0 (by decide)) (fun c0 => ?_)
          refine J_iload_n dX10_readThing_73 rfl ?_
          refine J_iconstN (n := 5) dX10_readThing_74 ?_
          refine J_icmp_neN dX10_readThing_75 (by decide) (by decide) (fun c0 => ?_) (fun c0 => absurd c0 (by decide))
          refine J_iconstN (n := 0) dX10_readThing_82 ?_
          refine J_istore_n (L' := [some (pR (some 158)), some (pI (nI (S.1 0 3 0))), some (pI (nI 1)), some (pI (nI 0))]) dX10_readThing_83 (by decide) rfl ?_
          refine J_iload_n dX10_readThing_84 rfl ?_
          refine J_if_ne dX10_readThing_85 (fun c0 => ?_) (fun c0 => absurd c0 (by decide))
          refine J_iload_n dX10_readThing_101 rfl ?_
          refine J_iconstN (n := 3) dX10_readThing_102 ?_
          refine J_icmp_neN dX10_readThing_103 (by decide) (by decide) (fun c0 => ?_) (fun c0 => absurd c0 (by decide))
          refine J_iload_n dX10_readThing_120 rfl ?_
          refine J_if_eq dX10_readThing_121 (fun c0 => ?_) (fun c0 => absurd c0 (by decide))
          refine J_aload_n dX10_readThing_151 rfl ?_
          refine J_iconstN (n := 0) dX10_readThing_152 ?_
          refine J_iload_n dX10_readThing_153 rfl ?_
          refine J_if_eq dX10_readThing_154 (fun c0 => ?_) (fun c0 => absurd c0 (by decide))
          refine J_bipush (x := nI 99) dX10_readThing_162 (by decide) ?_
          refine J_cVI (ci := 10) (c := 158) (as := [pI (nI 0), pI (nI 99)]) (st := []) dX10_readThing_164 lX10_199 okX10_readNumber vX10_readNumber s158 (by decide) rfl rfl rfl (Nat.le_of_ble_eq_true rfl) ⟨Nat.le_of_ble_eq_true rfl, Nat.le_of_ble_eq_true rfl⟩ CR.f (c_X10_readNumber (lo := 0) (hi := 99) hG hA.2.1.1 hA.1 (rn_le hA.2.1.2) (by decide) (by decide)) (fun vn7 gn7 en7 => ?_)
          have yn7 := en7.1
          subst yn7
          refine J_if_neB dX10_readThing_167 (fun c8 => ?_) (fun c8 => ?_)
          · obtain ⟨pn7, Vn7, hA, mn7, bn7⟩ := hA.nx (fOf_N (k := 3) (c := 2) (lo := 0) (hi := 99) rfl rfl rfl (by decide) (by decide)) c8 en7
            have hG := mn7.g hG
            have hS := hS.mg mn7
            have h7 := (congrFun (mn7.1 160 (by decide)).1 8).trans h7
            have hst := stM_b (K := tkK T n (rn cBl T n pn7))
            refine J_aload_n dX10_readThing_172 rfl ?_
            refine J_getR (r := some 165) dX10_readThing_173 fX10_34 s158 (fun _ => rfl) (g158_17 hG) ?_
            refine J_bipush (x := nI 6) dX10_readThing_176 (by decide) ?_
            refine J_iconstN (n := 4) dX10_readThing_178 ?_
            refine J_iload_n dX10_readThing_179 rfl ?_
            refine J_iaddN dX10_readThing_180 ?_
            refine J_imulN dX10_readThing_181 ?_
            refine J_iload_n dX10_readThing_182 rfl ?_
            refine J_iaddN dX10_readThing_183 ?_
            refine J_aload_n dX10_readThing_184 rfl ?_
            refine J_getI dX10_readThing_185 fX10_176 s158 (fun _ => rfl) ?_
            refine J_cvI (mn7.2.2.2.2) ?_
            refine J_iastN dX10_readThing_188 s165 (by decide) (by omega) ?_
            have hA := hA.s (c := 165) (k := 6 * (4 + S.1 0 3 0) + 1) (x := nI Vn7) (inD_165 (by omega)) (by decide)
            have hS := hS.s (c := 165) (k := 6 * (4 + S.1 0 3 0) + 1) (x := nI Vn7) (by decide)
            have h7 := (rI_c (h := gn7) (c := 165) (k := 6 * (4 + S.1 0 3 0) + 1) (a := 160) (j := 8) (x := nI Vn7) (by decide)).trans h7
            refine J_iinc (y := nI 2) (L' := [some (pR (some 158)), some (pI (nI (S.1 0 3 0))), some (pI (nI 2)), some (pI (nI 0))]) dX10_readThing_189 rfl (by decide) (by decide) rfl ?_
            refine J_goto dX10_readThing_192 ?_
            refine J_iload_n dX10_readThing_67 rfl ?_
            refine J_bipush (x := nI 6) dX10_readThing_68 (by decide) ?_
            refine J_icmp_geN dX10_readThing_70 (by decide) (by decide) (fun c0 => absurd c0 (by decide)) (fun c0 => ?_)
            refine J_iload_n dX10_readThing_73 rfl ?_
            refine J_iconstN (n := 5) dX10_readThing_74 ?_
            refine J_icmp_neN dX10_readThing_75 (by decide) (by decide) (fun c0 => ?_) (fun c0 => absurd c0 (by decide))
            refine J_iconstN (n := 0) dX10_readThing_82 ?_
            refine J_istore_n (L' := [some (pR (some 158)), some (pI (nI (S.1 0 3 0))), some (pI (nI 2)), some (pI (nI 0))]) dX10_readThing_83 (by decide) rfl ?_
            refine J_iload_n dX10_readThing_84 rfl ?_
            refine J_if_ne dX10_readThing_85 (fun c0 => ?_) (fun c0 => absurd c0 (by decide))
            refine J_iload_n dX10_readThing_101 rfl ?_
            refine J_iconstN (n := 3) dX10_readThing_102 ?_
            refine J_icmp_neN dX10_readThing_103 (by decide) (by decide) (fun c0 => ?_) (fun c0 => absurd c0 (by decide))
            refine J_iload_n dX10_readThing_120 rfl ?_
            refine J_if_eq dX10_readThing_121 (fun c0 => ?_) (fun c0 => absurd c0 (by decide))
            refine J_aload_n dX10_readThing_151 rfl ?_
            refine J_iconstN (n := 0) dX10_readThing_152 ?_
            refine J_iload_n dX10_readThing_153 rfl ?_
            refine J_if_eq dX10_readThing_154 (fun c0 => ?_) (fun c0 => absurd c0 (by decide))
            refine J_bipush (x := nI 99) dX10_readThing_162 (by decide) ?_
            refine J_cVI (ci := 10) (c := 158) (as := [pI (nI 0), pI (nI 99)]) (st := []) dX10_readThing_164 lX10_199 okX10_readNumber vX10_readNumber s158 (by decide) rfl rfl rfl (Nat.le_of_ble_eq_true rfl) ⟨Nat.le_of_ble_eq_true rfl, Nat.le_of_ble_eq_true rfl⟩ CR.f (c_X10_readNumber (lo := 0) (hi := 99) hG hA.2.1.1 hA.1 (rn_le hA.2.1.2) (by decide) (by decide)) (fun vn9 gn9 en9 => ?_)
            have yn9 := en9.1
            subst yn9
            refine J_if_neB dX10_readThing_167 (fun c10 => ?_) (fun c10 => ?_)
            · obtain ⟨pn9, Vn9, hA, mn9, bn9⟩ := hA.nx (fOf_N (k := 3) (c := 3) (lo := 0) (hi := 99) rfl rfl rfl (by decide) (by decide)) c10 en9
              have hG := mn9.g hG
              have hS := hS.mg mn9
              have h7 := (congrFun (mn9.1 160 (by decide)).1 8).trans h7
              have hst := stM_b (K := tkK T n (rn cBl T n pn9))
              refine J_aload_n dX10_readThing_172 rfl ?_
              refine J_getR (r := some 165) dX10_readThing_173 fX10_34 s158 (fun _ => rfl) (g158_17 hG) ?_
              refine J_bipush (x := nI 6) dX10_readThing_176 (by decide) ?_
              refine J_iconstN (n := 4) dX10_readThing_178 ?_
              refine J_iload_n dX10_readThing_179 rfl ?_
              refine J_iaddN dX10_readThing_180 ?_
              refine J_imulN dX10_readThing_181 ?_
              refine J_iload_n dX10_readThing_182 rfl ?_
              refine J_iaddN dX10_readThing_183 ?_
              refine J_aload_n dX10_readThing_184 rfl ?_
              refine J_getI dX10_readThing_185 fX10_176 s158 (fun _ => rfl) ?_
              refine J_cvI (mn9.2.2.2.2) ?_
              refine J_iastN dX10_readThing_188 s165 (by decide) (by omega) ?_
              have hA := hA.s (c := 165) (k := 6 * (4 + S.1 0 3 0) + 2) (x := nI Vn9) (inD_165 (by omega)) (by decide)
              have hS := hS.s (c := 165) (k := 6 * (4 + S.1 0 3 0) + 2) (x := nI Vn9) (by decide)
              have h7 := (rI_c (h := gn9) (c := 165) (k := 6 * (4 + S.1 0 3 0) + 2) (a := 160) (j := 8) (x := nI Vn9) (by decide)).trans h7
              refine J_iinc (y := nI 3) (L' := [some (pR (some 158)), some (pI (nI (S.1 0 3 0))), some (pI (nI 3)), some (pI (nI 0))]) dX10_readThing_189 rfl (by decide) (by decide) rfl ?_
              refine J_goto dX10_readThing_192 ?_
              refine J_iload_n dX10_readThing_67 rfl ?_
              refine J_bipush (x := nI 6) dX10_readThing_68 (by decide) ?_
              refine J_icmp_geN dX10_readThing_70 (by decide) (by decide) (fun c0 => absurd c0 (by decide)) (fun c0 => ?_)
              refine J_iload_n dX10_readThing_73 rfl ?_
              refine J_iconstN (n := 5) dX10_readThing_74 ?_
              refine J_icmp_neN dX10_readThing_75 (by decide) (by decide) (fun c0 => ?_) (fun c0 => absurd c0 (by decide))
              refine J_iconstN (n := 0) dX10_readThing_82 ?_
              refine J_istore_n (L' := [some (pR (some 158)), some (pI (nI (S.1 0 3 0))), some (pI (nI 3)), some (pI (nI 0))]) dX10_readThing_83 (by decide) rfl ?_
              refine J_iload_n dX10_readThing_84 rfl ?_
              refine J_if_ne dX10_readThing_85 (fun c0 => ?_) (fun c0 => absurd c0 (by decide))
              refine J_iload_n dX10_readThing_101 rfl ?_
              refine J_iconstN (n := 3) dX10_readThing_102 ?_
              refine J_icmp_neN dX10_readThing_103 (by decide) (by decide) (fun c0 => absurd c0 (by decide)) (fun c0 => ?_)
              refine J_aload_n dX10_readThing_106 rfl ?_
              refine J_iconstN (n := 0) dX10_readThing_107 ?_
              refine J_sipush (x := nI 500) dX10_readThing_108 (by decide) ?_
              refine J_cVI (ci := 10) (c := 158) (as := [pI (nI 0), pI (nI 500)]) (st := []) dX10_readThing_111 lX10_199 okX10_readNumber vX10_readNumber s158 (by decide) rfl rfl rfl (Nat.le_of_ble_eq_true rfl) ⟨Nat.le_of_ble_eq_true rfl, Nat.le_of_ble_eq_true rfl⟩ CR.f (c_X10_readNumber (lo := 0) (hi := 500) hG hA.2.1.1 hA.1 (rn_le hA.2.1.2) (by decide) (by decide)) (fun vn11 gn11 en11 => ?_)
              have yn11 := en11.1
              subst yn11
              refine J_if_eqB dX10_readThing_114 (fun c12 => ?_) (fun c12 => ?_)
              · refine J_iconstN (n := 0) dX10_readThing_170 ?_
                exact J_retZ dX10_readThing_171 rfl rfl (Or.inl ⟨rfl, hA.nb (fOf_N (k := 3) (c := 4) (lo := 0) (hi := 500) rfl rfl rfl (by decide) (by decide)) c12 en11⟩)
              · obtain ⟨pn11, Vn11, hA, mn11, bn11⟩ := hA.nx (fOf_N (k := 3) (c := 4) (lo := 0) (hi := 500) rfl rfl rfl (by decide) (by decide)) c12 en11
                have hG := mn11.g hG
                have hS := hS.mg mn11
                have h7 := (congrFun (mn11.1 160 (by decide)).1 8).trans h7
                have hst := stM_b (K := tkK T n (rn cBl T n pn11))
                refine J_goto dX10_readThing_117 ?_
                refine J_aload_n dX10_readThing_172 rfl ?_
                refine J_getR (r := some 165) dX10_readThing_173 fX10_34 s158 (fun _ => rfl) (g158_17 hG) ?_
                refine J_bipush (x := nI 6) dX10_readThing_176 (by decide) ?_
                refine J_iconstN (n := 4) dX10_readThing_178 ?_
                refine J_iload_n dX10_readThing_179 rfl ?_
                refine J_iaddN dX10_readThing_180 ?_
                refine J_imulN dX10_readThing_181 ?_
                refine J_iload_n dX10_readThing_182 rfl ?_
                refine J_iaddN dX10_readThing_183 ?_
                refine J_aload_n dX10_readThing_184 rfl ?_
                refine J_getI dX10_readThing_185 fX10_176 s158 (fun _ => rfl) ?_
                refine J_cvI (mn11.2.2.2.2) ?_
                refine J_iastN dX10_readThing_188 s165 (by decide) (by omega) ?_
                have hA := hA.s (c := 165) (k := 6 * (4 + S.1 0 3 0) + 3) (x := nI Vn11) (inD_165 (by omega)) (by decide)
                have hS := hS.s (c := 165) (k := 6 * (4 + S.1 0 3 0) + 3) (x := nI Vn11) (by decide)
                have h7 := (rI_c (h := gn11) (c := 165) (k := 6 * (4 + S.1 0 3 0) + 3) (a := 160) (j := 8) (x := nI Vn11) (by decide)).trans h7
                refine J_iinc (y := nI 4) (L' := [some (pR (some 158)), some (pI (nI (S.1 0 3 0))), some (pI (nI 4)), some (pI (nI 0))]) dX10_readThing_189 rfl (by decide) (by decide) rfl ?_
                refine J_goto dX10_readThing_192 ?_
                refine J_iload_n dX10_readThing_67 rfl ?_
                refine J_bipush (x := nI 6) dX10_readThing_68 (by decide) ?_
                refine J_icmp_geN dX10_readThing_70 (by decide) (by decide) (fun c0 => absurd c0 (by decide)) (fun c0 => ?_)
                refine J_iload_n dX10_readThing_73 rfl ?_
                refine J_iconstN (n := 5) dX10_readThing_74 ?_
                refine J_icmp_neN dX10_readThing_75 (by decide) (by decide) (fun c0 => ?_) (fun c0 => absurd c0 (by decide))
                refine J_iconstN (n := 0) dX10_readThing_82 ?_
                refine J_istore_n (L' := [some (pR (some 158)), some (pI (nI (S.1 0 3 0))), some (pI (nI 4)), some (pI (nI 0))]) dX10_readThing_83 (by decide) rfl ?_
                refine J_iload_n dX10_readThing_84 rfl ?_
                refine J_if_ne dX10_readThing_85 (fun c0 => ?_) (fun c0 => absurd c0 (by decide))
                refine J_iload_n dX10_readThing_101 rfl ?_
                refine J_iconstN (n := 3) dX10_readThing_102 ?_
                refine J_icmp_neN dX10_readThing_103 (by decide) (by decide) (fun c0 => ?_) (fun c0 => absurd c0 (by decide))
                refine J_iload_n dX10_readThing_120 rfl ?_
                refine J_if_eq dX10_readThing_121 (fun c0 => ?_) (fun c0 => absurd c0 (by decide))
                refine J_aload_n dX10_readThing_151 rfl ?_
                refine J_iconstN (n := 0) dX10_readThing_152 ?_
                refine J_iload_n dX10_readThing_153 rfl ?_
                refine J_if_eq dX10_readThing_154 (fun c0 => ?_) (fun c0 => absurd c0 (by decide))
                refine J_bipush (x := nI 99) dX10_readThing_162 (by decide) ?_
                refine J_cVI (ci := 10) (c := 158) (as := [pI (nI 0), pI (nI 99)]) (st := []) dX10_readThing_164 lX10_199 okX10_readNumber vX10_readNumber s158 (by decide) rfl rfl rfl (Nat.le_of_ble_eq_true rfl) ⟨Nat.le_of_ble_eq_true rfl, Nat.le_of_ble_eq_true rfl⟩ CR.f (c_X10_readNumber (lo := 0) (hi := 99) hG hA.2.1.1 hA.1 (rn_le hA.2.1.2) (by decide) (by decide)) (fun vn13 gn13 en13 => ?_)
                have yn13 := en13.1
                subst yn13
                refine J_if_neB dX10_readThing_167 (fun c14 => ?_) (fun c14 => ?_)
                · obtain ⟨pn13, Vn13, hA, mn13, bn13⟩ := hA.nx (fOf_N (k := 3) (c := 5) (lo := 0) (hi := 99) rfl rfl rfl (by decide) (by decide)) c14 en13
                  have hG := mn13.g hG
                  have hS := hS.mg mn13
                  have h7 := (congrFun (mn13.1 160 (by decide)).1 8).trans h7
                  have hst := stM_b (K := tkK T n (rn cBl T n pn13))
                  refine J_aload_n dX10_readThing_172 rfl ?_
                  refine J_getR (r := some 165) dX10_readThing_173 fX10_34 s158 (fun _ => rfl) (g158_17 hG) ?_
                  refine J_bipush (x := nI 6) dX10_readThing_176 (by decide) ?_
                  refine J_iconstN (n := 4) dX10_readThing_178 ?_
                  refine J_iload_n dX10_readThing_179 rfl ?_
                  refine J_iaddN dX10_readThing_180 ?_
                  refine J_imulN dX10_readThing_181 ?_
                  refine J_iload_n dX10_readThing_182 rfl ?_
                  refine J_iaddN dX10_readThing_183 ?_
                  refine J_aload_n dX10_readThing_184 rfl ?_
                  refine J_getI dX10_readThing_185 fX10_176 s158 (fun _ => rfl) ?_
                  refine J_cvI (mn13.2.2.2.2) ?_
                  refine J_iastN dX10_readThing_188 s165 (by decide) (by omega) ?_
                  have hA := hA.s (c := 165) (k := 6 * (4 + S.1 0 3 0) + 4) (x := nI Vn13) (inD_165 (by omega)) (by decide)
                  have hS := hS.s (c := 165) (k := 6 * (4 + S.1 0 3 0) + 4) (x := nI Vn13) (by decide)
                  have h7 := (rI_c (h := gn13) (c := 165) (k := 6 * (4 + S.1 0 3 0) + 4) (a := 160) (j := 8) (x := nI Vn13) (by decide)).trans h7
                  refine J_iinc (y := nI 5) (L' := [some (pR (some 158)), some (pI (nI (S.1 0 3 0))), some (pI (nI 5)), some (pI (nI 0))]) dX10_readThing_189 rfl (by decide) (by decide) rfl ?_
                  refine J_goto dX10_readThing_192 ?_
                  refine J_iload_n dX10_readThing_67 rfl ?_
                  refine J_bipush (x := nI 6) dX10_readThing_68 (by decide) ?_
                  refine J_icmp_geN dX10_readThing_70 (by decide) (by decide) (fun c0 => absurd c0 (by decide)) (fun c0 => ?_)
                  refine J_iload_n dX10_readThing_73 rfl ?_
                  refine J_iconstN (n := 5) dX10_readThing_74 ?_
                  refine J_icmp_neN dX10_readThing_75 (by decide) (by decide) (fun c0 => absurd c0 (by decide)) (fun c0 => ?_)
                  refine J_iconstN (n := 1) dX10_readThing_78 ?_
                  refine J_goto dX10_readThing_79 ?_
                  refine J_istore_n (L' := [some (pR (some 158)), some (pI (nI (S.1 0 3 0))), some (pI (nI 5)), some (pI (nI 1))]) dX10_readThing_83 (by decide) rfl ?_
                  refine J_iload_n dX10_readThing_84 rfl ?_
                  refine J_if_ne dX10_readThing_85 (fun c0 => ?_) (fun c0 => absurd c0 (by decide))
                  refine J_iload_n dX10_readThing_101 rfl ?_
                  refine J_iconstN (n := 3) dX10_readThing_102 ?_
                  refine J_icmp_neN dX10_readThing_103 (by decide) (by decide) (fun c0 => ?_) (fun c0 => absurd c0 (by decide))
                  refine J_iload_n dX10_readThing_120 rfl ?_
                  refine J_if_eq dX10_readThing_121 (fun c0 => absurd c0 (by decide)) (fun c0 => ?_)
                  refine J_aload_n dX10_readThing_124 rfl ?_
                  refine J_getI dX10_readThing_125 fX10_141 s158 (fun _ => rfl) ?_
                  refine J_cvI ((rI_c (by decide)).trans (hA.1.1)) ?_
                  refine J_iconstN (n := 2) dX10_readThing_128 ?_
                  refine J_icmp_neN dX10_readThing_129 (by omega) (by omega) (fun d8 => ?_) (fun d8 => ?_)
                  · refine J_aload_n dX10_readThing_151 rfl ?_
                    refine J_iconstN (n := 0) dX10_readThing_152 ?_
                    refine J_iload_n dX10_readThing_153 rfl ?_
                    refine J_if_eq dX10_readThing_154 (fun c0 => absurd c0 (by decide)) (fun c0 => ?_)
                    refine J_bipush (x := nI 9) dX10_readThing_157 (by decide) ?_
                    refine J_goto dX10_readThing_159 ?_
                    refine J_cVI (ci := 10) (c := 158) (as := [pI (nI 0), pI (nI 9)]) (st := []) dX10_readThing_164 lX10_199 okX10_readNumber vX10_readNumber s158 (by decide) rfl rfl rfl (Nat.le_of_ble_eq_true rfl) ⟨Nat.le_of_ble_eq_true rfl, Nat.le_of_ble_eq_true rfl⟩ CR.f (c_X10_readNumber (lo := 0) (hi := 9) hG hA.2.1.1 hA.1 (rn_le hA.2.1.2) (by decide) (by decide)) (fun vn16 gn16 en16 => ?_)
                    have yn16 := en16.1
                    subst yn16
                    refine J_if_neB dX10_readThing_167 (fun c17 => ?_) (fun c17 => ?_)
                    · obtain ⟨pn16, Vn16, hA, mn16, bn16⟩ := hA.nx (fOf_9 (fun y => d8 ((st_2 tkK_b).mpr y.1))) c17 en16
                      have hG := mn16.g hG
                      have hS := hS.mg mn16
                      have h7 := (congrFun (mn16.1 160 (by decide)).1 8).trans h7
                      have hst := stM_b (K := tkK T n (rn cBl T n pn16))
                      refine J_aload_n dX10_readThing_172 rfl ?_
                      refine J_getR (r := some 165) dX10_readThing_173 fX10_34 s158 (fun _ => rfl) (g158_17 hG) ?_
                      refine J_bipush (x := nI 6) dX10_readThing_176 (by decide) ?_
                      refine J_iconstN (n := 4) dX10_readThing_178 ?_
                      refine J_iload_n dX10_readThing_179 rfl ?_
                      refine J_iaddN dX10_readThing_180 ?_
                      refine J_imulN dX10_readThing_181 ?_
                      refine J_iload_n dX10_readThing_182 rfl ?_
                      refine J_iaddN dX10_readThing_183 ?_
                      refine J_aload_n dX10_readThing_184 rfl ?_
                      refine J_getI dX10_readThing_185 fX10_176 s158 (fun _ => rfl) ?_
                      refine J_cvI (mn16.2.2.2.2) ?_
                      refine J_iastN dX10_readThing_188 s165 (by decide) (by omega) ?_
                      have hA := hA.s (c := 165) (k := 6 * (4 + S.1 0 3 0) + 5) (x := nI Vn16) (inD_165 (by omega)) (by decide)
                      have hS := hS.s (c := 165) (k := 6 * (4 + S.1 0 3 0) + 5) (x := nI Vn16) (by decide)
                      have h7 := (rI_c (h := gn16) (c := 165) (k := 6 * (4 + S.1 0 3 0) + 5) (a := 160) (j := 8) (x := nI Vn16) (by decide)).trans h7
                      refine J_iinc (y := nI 6) (L' := [some (pR (some 158)), some (pI (nI (S.1 0 3 0))), some (pI (nI 6)), some (pI (nI 1))]) dX10_readThing_189 rfl (by decide) (by decide) rfl ?_
                      refine J_goto dX10_readThing_192 ?_
                      refine J_iload_n dX10_readThing_67 rfl ?_
                      refine J_bipush (x := nI 6) dX10_readThing_68 (by decide) ?_
                      refine J_icmp_geN dX10_readThing_70 (by decide) (by decide) (fun c0 => ?_) (fun c0 => absurd c0 (by decide))
                      refine J_aload_n dX10_readThing_195 rfl ?_
                      refine J_getR (r := some 160) dX10_readThing_196 fX10_17 s158 (fun _ => rfl) ((xRI).trans (g158_12 hG)) ?_
                      refine J_bipush (x := nI 8) dX10_readThing_199 (by decide) ?_
                      refine J_dup2 dX10_readThing_201 rfl rfl ?_
                      refine J_ialdN dX10_readThing_202 s160 (by decide) (by omega) ?_
                      refine J_cvI ((rI_c (by decide)).trans (h7)) ?_
                      refine J_iconstN (n := 1) dX10_readThing_203 ?_
                      refine J_iaddN dX10_readThing_204 ?_
                      refine J_iastN dX10_readThing_205 s160 (by decide) (by omega) ?_
                      have hA := hA.s (c := 160) (k := 8) (x := nI (S.1 0 3 0 + 1)) (inD_160 (by omega)) (by decide)
                      have hS := hS.s (c := 160) (k := 8) (x := nI (S.1 0 3 0 + 1)) (by decide)
                      refine J_iconstN (n := 1) dX10_readThing_206 ?_
                      exact J_retZ dX10_readThing_207 rfl rfl (Or.inr ⟨rfl, _, _, _, _, hA, rfl, (Md_thing hD (by omega) (by rfl) hVb).sh hS, rfl⟩)
                    · refine J_iconstN (n := 0) dX10_readThing_170 ?_
                      exact J_retZ dX10_readThing_171 rfl rfl (Or.inl ⟨rfl, hA.nb (fOf_9 (fun y => d8 ((st_2 tkK_b).mpr y.1))) c17 en16⟩)
                  · have q3 := (st_2 tkK_b).mp d8
                    have b7 := (tk_dig q3).2.2
                    refine J_aload_n dX10_readThing_132 rfl ?_
                    refine J_getI dX10_readThing_133 fX10_163 s158 (fun _ => rfl) ?_
                    refine J_cvI ((rI_c (by decide)).trans ((hA.1.2.2.2.2.2 q3))) ?_
                    refine J_iconstN (n := 1) dX10_readThing_136 ?_
                    refine J_icmp_neN dX10_readThing_137 (by omega) (by omega) (fun d9 => ?_) (fun d9 => ?_)
                    · refine J_aload_n dX10_readThing_151 rfl ?_
                      refine J_iconstN (n := 0) dX10_readThing_152 ?_
                      refine J_iload_n dX10_readThing_153 rfl ?_
                      refine J_if_eq dX10_readThing_154 (fun c0 => absurd c0 (by decide)) (fun c0 => ?_)
                      refine J_bipush (x := nI 9) dX10_readThing_157 (by decide) ?_
                      refine J_goto dX10_readThing_159 ?_
                      refine J_cVI (ci := 10) (c := 158) (as := [pI (nI 0), pI (nI 9)]) (st := []) dX10_readThing_164 lX10_199 okX10_readNumber vX10_readNumber s158 (by decide) rfl rfl rfl (Nat.le_of_ble_eq_true rfl) ⟨Nat.le_of_ble_eq_true rfl, Nat.le_of_ble_eq_true rfl⟩ CR.f (c_X10_readNumber (lo := 0) (hi := 9) hG hA.2.1.1 hA.1 (rn_le hA.2.1.2) (by decide) (by decide)) (fun vn19 gn19 en19 => ?_)
                      have yn19 := en19.1
                      subst yn19
                      refine J_if_neB dX10_readThing_167 (fun c20 => ?_) (fun c20 => ?_)
                      · obtain ⟨pn19, Vn19, hA, mn19, bn19⟩ := hA.nx (fOf_9 (fun y => d9 y.2)) c20 en19
                        have hG := mn19.g hG
                        have hS := hS.mg mn19
                        have h7 := (congrFun (mn19.1 160 (by decide)).1 8).trans h7
                        have hst := stM_b (K := tkK T n (rn cBl T n pn19))
                        refine J_aload_n dX10_readThing_172 rfl ?_
                        refine J_getR (r := some 165) dX10_readThing_173 fX10_34 s158 (fun _ => rfl) (g158_17 hG) ?_
                        refine J_bipush (x := nI 6) dX10_readThing_176 (by decide) ?_
                        refine J_iconstN (n := 4) dX10_readThing_178 ?_
                        refine J_iload_n dX10_readThing_179 rfl ?_
                        refine J_iaddN dX10_readThing_180 ?_
                        refine J_imulN dX10_readThing_181 ?_
                        refine J_iload_n dX10_readThing_182 rfl ?_
                        refine J_iaddN dX10_readThing_183 ?_
                        refine J_aload_n dX10_readThing_184 rfl ?_
                        refine J_getI dX10_readThing_185 fX10_176 s158 (fun _ => rfl) ?_
                        refine J_cvI (mn19.2.2.2.2) ?_
                        refine J_iastN dX10_readThing_188 s165 (by decide) (by omega) ?_
                        have hA := hA.s (c := 165) (k := 6 * (4 + S.1 0 3 0) + 5) (x := nI Vn19) (inD_165 (by omega)) (by decide)
                        have hS := hS.s (c := 165) (k := 6 * (4 + S.1 0 3 0) + 5) (x := nI Vn19) (by decide)
                        have h7 := (rI_c (h := gn19) (c := 165) (k := 6 * (4 + S.1 0 3 0) + 5) (a := 160) (j := 8) (x := nI Vn19) (by decide)).trans h7
                        refine J_iinc (y := nI 6) (L' := [some (pR (some 158)), some (pI (nI (S.1 0 3 0))), some (pI (nI 6)), some (pI (nI 1))]) dX10_readThing_189 rfl (by decide) (by decide) rfl ?_
                        refine J_goto dX10_readThing_192 ?_
                        refine J_iload_n dX10_readThing_67 rfl ?_
                        refine J_bipush (x := nI 6) dX10_readThing_68 (by decide) ?_
                        refine J_icmp_geN dX10_readThing_70 (by decide) (by decide) (fun c0 => ?_) (fun c0 => absurd c0 (by decide))
                        refine J_aload_n dX10_readThing_195 rfl ?_
                        refine J_getR (r := some 160) dX10_readThing_196 fX10_17 s158 (fun _ => rfl) ((xRI).trans (g158_12 hG)) ?_
                        refine J_bipush (x := nI 8) dX10_readThing_199 (by decide) ?_
                        refine J_dup2 dX10_readThing_201 rfl rfl ?_
                        refine J_ialdN dX10_readThing_202 s160 (by decide) (by omega) ?_
                        refine J_cvI ((rI_c (by decide)).trans (h7)) ?_
                        refine J_iconstN (n := 1) dX10_readThing_203 ?_
                        refine J_iaddN dX10_readThing_204 ?_
                        refine J_iastN dX10_readThing_205 s160 (by decide) (by omega) ?_
                        have hA := hA.s (c := 160) (k := 8) (x := nI (S.1 0 3 0 + 1)) (inD_160 (by omega)) (by decide)
                        have hS := hS.s (c := 160) (k := 8) (x := nI (S.1 0 3 0 + 1)) (by decide)
                        refine J_iconstN (n := 1) dX10_readThing_206 ?_
                        exact J_retZ dX10_readThing_207 rfl rfl (Or.inr ⟨rfl, _, _, _, _, hA, rfl, (Md_thing hD (by omega) (by rfl) hVb).sh hS, rfl⟩)
                      · refine J_iconstN (n := 0) dX10_readThing_170 ?_
                        exact J_retZ dX10_readThing_171 rfl rfl (Or.inl ⟨rfl, hA.nb (fOf_9 (fun y => d9 y.2)) c20 en19⟩)
                    · refine J_aload_n dX10_readThing_140 rfl ?_
                      refine J_iconstN (n := 2) dX10_readThing_141 ?_
                      refine J_cVI (ci := 10) (c := 158) (as := [pI (nI 2)]) (st := []) dX10_readThing_142 lX10_169 okX10_fails vX10_fails s158 (by decide) rfl rfl rfl (Nat.le_of_ble_eq_true rfl) ⟨Nat.le_of_ble_eq_true rfl, Nat.le_of_ble_eq_true rfl⟩ CR.f (c_X10_fails (k := 2) hA.1.2.2.1) (fun vf21 gf21 ef21 => ?_)
                      rw [ef21.1, ef21.2]
                      refine J_if_eq dX10_readThing_145 (fun c0 => ?_) (fun c0 => absurd c0 (by decide))
                      refine J_iconstN (n := 0) dX10_readThing_170 ?_
                      exact J_retZ dX10_readThing_171 rfl rfl (Or.inl ⟨rfl, hA.bad (fOf_1 q3 d9) (by decide)⟩)
                · refine J_iconstN (n := 0) dX10_readThing_170 ?_
                  exact J_retZ dX10_readThing_171 rfl rfl (Or.inl ⟨rfl, hA.nb (fOf_N (k := 3) (c := 5) (lo := 0) (hi := 99) rfl rfl rfl (by decide) (by decide)) c14 en13⟩)
            · refine J_iconstN (n := 0) dX10_readThing_170 ?_
              exact J_retZ dX10_readThing_171 rfl rfl (Or.inl ⟨rfl, hA.nb (fOf_N (k := 3) (c := 3) (lo := 0) (hi := 99) rfl rfl rfl (by decide) (by decide)) c10 en9⟩)
          · refine J_iconstN (n := 0) dX10_readThing_170 ?_
            exact J_retZ dX10_readThing_171 rfl rfl (Or.inl ⟨rfl, hA.nb (fOf_N (k := 3) (c := 2) (lo := 0) (hi := 99) rfl rfl rfl (by decide) (by decide)) c8 en7⟩)
      · refine J_aload_n dX10_readThing_45 rfl ?_
        refine J_iconstN (n := 3) dX10_readThing_46 ?_
        refine J_cVI (ci := 10) (c := 158) (as := [pI (nI 3)]) (st := []) dX10_readThing_47 lX10_169 okX10_fails vX10_fails s158 (by decide) rfl rfl rfl (Nat.le_of_ble_eq_true rfl) ⟨Nat.le_of_ble_eq_true rfl, Nat.le_of_ble_eq_true rfl⟩ CR.f (c_X10_fails (k := 3) hA.1.2.2.1) (fun vf22 gf22 ef22 => ?_)
        rw [ef22.1, ef22.2]
        exact J_retZ dX10_readThing_50 rfl rfl (Or.inl ⟨rfl, hA.wb (k := 3) (c := 0) rfl q2 (by rw [nF_k (by decide) (by decide)]; exact if_neg (fun y => d2 ((hlp_m1 (by omega)).mpr y))) (by decide)⟩)
    · refine J_aload_n dX10_readThing_31 rfl ?_
      refine J_iconstN (n := 1) dX10_readThing_32 ?_
      refine J_cVI (ci := 10) (c := 158) (as := [pI (nI 1)]) (st := []) dX10_readThing_33 lX10_169 okX10_fails vX10_fails s158 (by decide) rfl rfl rfl (Nat.le_of_ble_eq_true rfl) ⟨Nat.le_of_ble_eq_true rfl, Nat.le_of_ble_eq_true rfl⟩ CR.f (c_X10_fails (k := 1) hA.1.2.2.1) (fun vf23 gf23 ef23 => ?_)
      rw [ef23.1, ef23.2]
      exact J_retZ dX10_readThing_36 rfl rfl (Or.inl ⟨rfl, hA.w1 (k := 3) (c := 0) rfl (fun y => d1 ((st_1 tkK_b).mpr y))⟩)
  · refine J_aload_n dX10_readThing_13 rfl ?_
    refine J_iconstN (n := 4) dX10_readThing_14 ?_
    refine J_cVI (ci := 10) (c := 158) (as := [pI (nI 4)]) (st := []) dX10_readThing_15 lX10_169 okX10_fails vX10_fails s158 (by decide) rfl rfl rfl (Nat.le_of_ble_eq_true rfl) ⟨Nat.le_of_ble_eq_true rfl, Nat.le_of_ble_eq_true rfl⟩ CR.f (c_X10_fails (k := 4) hA.1.2.2.1) (fun vf24 gf24 ef24 => ?_)
    rw [ef24.1, ef24.2]
    exact J_retZ dX10_readThing_18 rfl rfl (Or.inl ⟨rfl, hA.kb hK hkw (by rw [kwFt_4, if_neg (by omega)]) (by decide)⟩)
