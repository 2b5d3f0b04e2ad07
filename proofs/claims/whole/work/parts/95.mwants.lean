/-! ===== wants and insteads: the model ===== -/
theorem nF4_0 {S : PS} {V : Nat} {num : Nat → Nat} : nameF S 4 0 V num = knF (fdN (S.2.1 3) V (S.1 0 3 0)) := rfl
theorem nF5_0 {S : PS} {V : Nat} {num : Nat → Nat} : nameF S 5 0 V num = knF (fdN (S.2.1 3) V (S.1 0 3 0)) := rfl
theorem nF4_1 {S : PS} {V : Nat} {num : Nat → Nat} : nameF S 4 1 V num = if fdN (S.2.1 2) V (S.1 0 2 0) = 0 then 5 else if S.2.2.2 (4 * num 0 + (fdN (S.2.1 2) V (S.1 0 2 0) - 1)) = 1 then 3 else 0 := rfl
theorem nF5_1 {S : PS} {V : Nat} {num : Nat → Nat} : nameF S 5 1 V num = if fdN (S.2.1 3) V (S.1 0 3 0) = 0 then 5 else if fdN (S.2.1 3) V (S.1 0 3 0) - 1 = num 0 ∨ S.1 4 (fdN (S.2.1 3) V (S.1 0 3 0) - 1) 0 ≠ 0 then 3 else 0 := rfl
theorem nmS_4 {S : PS} {V : Nat} : nameS S 4 V = S := if_pos (Or.inl rfl)
theorem nmS_5 {S : PS} {V : Nat} : nameS S 5 V = S := if_pos (Or.inr rfl)
theorem Md_want0 {h : PH} {S : PS} {num : Nat → Nat} {x : Int32} {t u v0 v1 v2 v3 v4 : Nat} (a : Md h S) (ht : t < S.1 0 3 0) (hu : u < 4) (h4 : S.1 0 3 0 ≤ 4) (hx : x = nI 1) (e0 : num 0 = t) (e1 : num 1 = u) (e2 : num 2 = v0) (e3 : num 3 = v1) (e4 : num 4 = v2) (e5 : num 5 = v3) (e6 : num 6 = v4) : Md (sI (sI (sI (sI (sI (sI h 167 (4 * t + u) x) 166 (80 + 5 * (4 * t + u) + 0) (nI v0)) 166 (80 + 5 * (4 * t + u) + 1) (nI v1)) 166 (80 + 5 * (4 * t + u) + 2) (nI v2)) 166 (80 + 5 * (4 * t + u) + 3) (nI v3)) 166 (80 + 5 * (4 * t + u) + 4) (nI v4)) (settl S 4 num) := by
  subst e0
  subst e1
  subst e2
  subst e3
  subst e4
  subst e5
  subst e6
  exact Md_want a ht hu h4 hx
theorem Md_inst0 {h : PH} {S : PS} {num : Nat → Nat} {t u v : Nat} (a : Md h S) (hu : u < S.1 0 3 0) (h4 : S.1 0 3 0 ≤ 4) (e0 : num 0 = t) (e1 : num 1 = u) (e2 : num 2 = v) : Md (sI (sI h 168 (4 + u) (nI t)) 169 (4 + u) (nI v)) (settl S 5 num) := by
  subst e0
  subst e1
  subst e2
  exact Md_inst a hu h4
theorem kn_s {t : Nat} : knF (t + 1) = 0 := rfl
theorem nI4_0 {S : PS} {V t : Nat} (h : fdN (S.2.1 3) V (S.1 0 3 0) = t + 1) : nameI S 4 0 V = t := by
  show fdN (S.2.1 3) V (S.1 0 3 0) - 1 = t
  omega
theorem nI4_1 {S : PS} {V t : Nat} (h : fdN (S.2.1 2) V (S.1 0 2 0) = t + 1) : nameI S 4 1 V = t := by
  show fdN (S.2.1 2) V (S.1 0 2 0) - 1 = t
  omega
theorem nI5_0 {S : PS} {V t : Nat} (h : fdN (S.2.1 3) V (S.1 0 3 0) = t + 1) : nameI S 5 0 V = t := by
  show fdN (S.2.1 3) V (S.1 0 3 0) - 1 = t
  omega
theorem nI5_1 {S : PS} {V t : Nat} (h : fdN (S.2.1 3) V (S.1 0 3 0) = t + 1) : nameI S 5 1 V = t := by
  show fdN (S.2.1 3) V (S.1 0 3 0) - 1 = t
  omega
theorem c_X10_readWant {R : (Nat × Nat) × PS} {h0 h : PH} {T : Nat → Int32} {n p c : Nat} {num : Nat → Nat} {S : PS} (hG : GR h.2.2) (hA : At R h0 h T n (S, 0, c, num) p) (hD : Md h S) (hK : tkK T n (rn cBl T n p) = 2) (hkw : kw (tkV T n (rn cBl T n p)) = 5) : CtI mX10_readWant h [pR (some 158)] (fun v h' => Rr R h0 h' T n 4 (S.1 0 5 0) v) := by
  have w4 : S.1 0 2 0 ≤ 4 := hA.2.2.1.1.1.1.2.2.1
  have t4 : S.1 0 3 0 ≤ 4 := hA.2.2.1.1.1.1.2.2.2.1
  have f6 : S.1 0 4 0 ≤ 6 := hA.2.2.1.1.1.1.2.2.2.2.1
  refine Ct.of (L := [some (pR (some 158)), none, none, none, none]) rfl rfl (Nat.le_of_ble_eq_true rfl) rfl ?_
  refine J_aload_n dX10_readWant_0 rfl ?_
  refine J_cVV (ci := 10) (c := 158) (as := []) (st := []) dX10_readWant_1 lX10_179 okX10_scan vX10_scan s158 (by decide) rfl rfl rfl (Nat.le_of_ble_eq_true rfl) ⟨Nat.le_of_ble_eq_true rfl, Nat.le_of_ble_eq_true rfl⟩ CR.f (c_X10_scan hG hA.2.1.1 hA.1.2.2.2.1 (tkE_le (rn_le hA.2.1.2))) (fun gs1 es1 => ?_)
  obtain ⟨ps1, hA⟩ := (hA.kg hK hkw rfl es1.2 es1.1).x
  have hG := es1.1.g hG
  have hS : Sh gs1 h := Sh.rf.ms es1.1
  have hD1 := hD.sh hS
  have h7 : gs1.1 160 7 = nI (S.1 0 2 0) := hD1.1 2 (by decide)
  have h8 : gs1.1 160 8 = nI (S.1 0 3 0) := hD1.1 3 (by decide)
  have hst := stM_b (K := tkK T n (rn cBl T n ps1))
  refine J_aload_n dX10_readWant_4 rfl ?_
  refine J_getI dX10_readWant_5 fX10_141 s158 (fun _ => rfl) ?_
  refine J_cvI (hA.1.1) ?_
  refine J_iconstN (n := 1) dX10_readWant_8 ?_
  refine J_icmp_eqN dX10_readWant_9 (by omega) (by omega) (fun a1 => ?_) (fun a1 => ?_)
  · have q2 := (st_1 tkK_b).mp a1
    have hw := hA.1.2.2.2.2.1 q2
    have hVb := tkV_40 q2
    refine J_aload_n dX10_readWant_18 rfl ?_
    refine J_cVI (ci := 10) (c := 158) (as := []) (st := []) dX10_readWant_19 lX10_203 okX10_thingNamed vX10_thingNamed s158 (by decide) rfl rfl rfl (Nat.le_of_ble_eq_true rfl) ⟨Nat.le_of_ble_eq_true rfl, Nat.le_of_ble_eq_true rfl⟩ CR.f (c_X10_thingNamed (V := tkV T n (rn cBl T n ps1)) (c := S.1 0 3 0) (g := S.2.1 3) hG h8 t4 hD1.2.2.2.2.2.2.2.2.1.2.1 hw (tkV_40 q2)) (fun vq2 gq2 eq2 => ?_)
    rw [eq2.2, eq2.1]
    have hxt := fdN_le (g := S.2.1 3) (V := tkV T n (rn cBl T n ps1)) (S.1 0 3 0)
    rcases hqt : fdN (S.2.1 3) (tkV T n (rn cBl T n ps1)) (S.1 0 3 0) with _ | t
    · refine J_cvI (show hlp 0 = -1 from rfl) ?_
      refine J_istore_n (L' := [some (pR (some 158)), some (pI ((-1))), none, none, none]) dX10_readWant_22 (by decide) rfl ?_
      refine J_iload_n dX10_readWant_23 rfl ?_
      refine J_iconst (x := -1) dX10_readWant_24 (by decide) ?_
      refine J_icmp_ne dX10_readWant_25 (fun a2 => ?_) (fun a2 => ?_)
      · exact absurd rfl a2
      · refine J_aload_n dX10_readWant_28 rfl ?_
        refine J_iconstN (n := 5) dX10_readWant_29 ?_
        refine J_cVI (ci := 10) (c := 158) (as := [pI (nI 5)]) (st := []) dX10_readWant_30 lX10_169 okX10_fails vX10_fails s158 (by decide) rfl rfl rfl (Nat.le_of_ble_eq_true rfl) ⟨Nat.le_of_ble_eq_true rfl, Nat.le_of_ble_eq_true rfl⟩ CR.f (c_X10_fails (k := 5) hA.1.2.2.1) (fun vf4 gf4 ef4 => ?_)
        rw [ef4.1, ef4.2]
        exact J_retZ dX10_readWant_33 rfl rfl (Or.inl ⟨rfl, hA.wb (k := 4) (c := 0) rfl q2 (by rw [nF4_0, hqt]; rfl) (by decide)⟩)
    · refine J_cvI (show hlp (t + 1) = nI t from rfl) ?_
      refine J_istore_n (L' := [some (pR (some 158)), some (pI (nI t)), none, none, none]) dX10_readWant_22 (by decide) rfl ?_
      refine J_iload_n dX10_readWant_23 rfl ?_
      refine J_iconst (x := -1) dX10_readWant_24 (by decide) ?_
      refine J_icmp_ne dX10_readWant_25 (fun a2 => ?_) (fun a2 => ?_)
      · refine J_aload_n dX10_readWant_34 rfl ?_
        refine J_cVV (ci := 10) (c := 158) (as := []) (st := []) dX10_readWant_35 lX10_179 okX10_scan vX10_scan s158 (by decide) rfl rfl rfl (Nat.le_of_ble_eq_true rfl) ⟨Nat.le_of_ble_eq_true rfl, Nat.le_of_ble_eq_true rfl⟩ CR.f (c_X10_scan (h := gs1) hG hA.2.1.1 hA.1.2.2.2.1 (tkE_le (rn_le hA.2.1.2))) (fun gs2 es2 => ?_)
        have hS := hS.ms es2.1
        have hA1 := hA.w (k := 4) (c := 0) rfl q2 (by rw [nF4_0, hqt]; rfl) es2.2 (hA.2.1.1.ms es2.1) (hA.2.2.2.2.ms es2.1)
        rw [nmS_4, nI4_0 hqt] at hA1
        obtain ⟨ps2, hA⟩ := hA1.x
        clear hA1
        have hG := es2.1.g hG
        have hD1 := hD.sh hS
        have h7 : gs2.1 160 7 = nI (S.1 0 2 0) := hD1.1 2 (by decide)
        have h8 : gs2.1 160 8 = nI (S.1 0 3 0) := hD1.1 3 (by decide)
        have hst := stM_b (K := tkK T n (rn cBl T n ps2))
        refine J_aload_n dX10_readWant_38 rfl ?_
        refine J_getI dX10_readWant_39 fX10_141 s158 (fun _ => rfl) ?_
        refine J_cvI (hA.1.1) ?_
        refine J_iconstN (n := 1) dX10_readWant_42 ?_
        refine J_icmp_eqN dX10_readWant_43 (by omega) (by omega) (fun a3 => ?_) (fun a3 => ?_)
        · have q2 := (st_1 tkK_b).mp a3
          have hw := hA.1.2.2.2.2.1 q2
          have hVb := tkV_40 q2
          refine J_aload_n dX10_readWant_52 rfl ?_
          refine J_cVI (ci := 10) (c := 158) (as := []) (st := []) dX10_readWant_53 lX10_193 okX10_winterNamed vX10_winterNamed s158 (by decide) rfl rfl rfl (Nat.le_of_ble_eq_true rfl) ⟨Nat.le_of_ble_eq_true rfl, Nat.le_of_ble_eq_true rfl⟩ CR.f (c_X10_winterNamed (V := tkV T n (rn cBl T n ps2)) (c := S.1 0 2 0) (g := S.2.1 2) hG h7 w4 hD1.2.2.2.2.2.2.2.2.1.1 hw (tkV_40 q2)) (fun vq7 gq7 eq7 => ?_)
          rw [eq7.2, eq7.1]
          have hxu := fdN_le (g := S.2.1 2) (V := tkV T n (rn cBl T n ps2)) (S.1 0 2 0)
          rcases hqu : fdN (S.2.1 2) (tkV T n (rn cBl T n ps2)) (S.1 0 2 0) with _ | u
          · refine J_cvI (show hlp 0 = -1 from rfl) ?_
            refine J_istore_n (L' := [some (pR (some 158)), some (pI (nI t)), some (pI ((-1))), none, none]) dX10_readWant_56 (by decide) rfl ?_
            refine J_iload_n dX10_readWant_57 rfl ?_
            refine J_iconst (x := -1) dX10_readWant_58 (by decide) ?_
            refine J_icmp_eq dX10_readWant_59 (fun a4 => ?_) (fun a4 => ?_)
            · refine J_iload_n dX10_readWant_81 rfl ?_
              refine J_iconst (x := -1) dX10_readWant_82 (by decide) ?_
              refine J_icmp_ne dX10_readWant_83 (fun a6 => ?_) (fun a6 => ?_)
              · exact absurd rfl a6
              · refine J_aload_n dX10_readWant_86 rfl ?_
                refine J_iconstN (n := 5) dX10_readWant_87 ?_
                refine J_cVI (ci := 10) (c := 158) (as := [pI (nI 5)]) (st := []) dX10_readWant_88 lX10_169 okX10_fails vX10_fails s158 (by decide) rfl rfl rfl (Nat.le_of_ble_eq_true rfl) ⟨Nat.le_of_ble_eq_true rfl, Nat.le_of_ble_eq_true rfl⟩ CR.f (c_X10_fails (k := 5) hA.1.2.2.1) (fun vf10 gf10 ef10 => ?_)
                rw [ef10.1, ef10.2]
                exact J_retZ dX10_readWant_91 rfl rfl (Or.inl ⟨rfl, hA.wb (k := 4) (c := 1) rfl q2 (by rw [nF4_1, hqu]; rfl) (by decide)⟩)
            · exact absurd rfl a4
          · refine J_cvI (show hlp (u + 1) = nI u from rfl) ?_
            refine J_istore_n (L' := [some (pR (some 158)), some (pI (nI t)), some (pI (nI u)), none, none]) dX10_readWant_56 (by decide) rfl ?_
            refine J_iload_n dX10_readWant_57 rfl ?_
            refine J_iconst (x := -1) dX10_readWant_58 (by decide) ?_
            refine J_icmp_eq dX10_readWant_59 (fun a4 => ?_) (fun a4 => ?_)
            · exact absurd a4 (nI_m1 (by omega))
            · have hwt : S.2.2.2 (4 * t + u) < 2 := hA.2.2.1.1.1.2.2.2.2.2.2.2.2 t (show t < S.1 0 3 0 by omega) u (by omega)
              have hi7 : gs2.1 167 (4 * t + u) = nI (S.2.2.2 (4 * t + u)) := by have z := hD1.2.2.2.2.1 t (by omega) u (by omega); rw [if_pos (by omega)] at z; exact z
              refine J_aload_n dX10_readWant_62 rfl ?_
              refine J_getR (r := some 167) dX10_readWant_63 fX10_40 s158 (fun _ => rfl) (g158_19 hG) ?_
              refine J_iconstN (n := 4) dX10_readWant_66 ?_
              refine J_iload_n dX10_readWant_67 rfl ?_
              refine J_imulN dX10_readWant_68 ?_
              refine J_iload_n dX10_readWant_69 rfl ?_
              refine J_iaddN dX10_readWant_70 ?_
              refine J_zaldN dX10_readWant_71 s167 (by decide) (by omega) ?_
              refine J_cvI (hi7) ?_
              refine J_if_eqN dX10_readWant_72 (by omega) (fun a5 => ?_) (fun a5 => ?_)
              · refine J_iload_n dX10_readWant_81 rfl ?_
                refine J_iconst (x := -1) dX10_readWant_82 (by decide) ?_
                refine J_icmp_ne dX10_readWant_83 (fun a6 => ?_) (fun a6 => ?_)
                · refine J_aload_n dX10_readWant_92 rfl ?_
                  refine J_getR (r := some 167) dX10_readWant_93 fX10_40 s158 (fun _ => rfl) (g158_19 hG) ?_
                  refine J_iconstN (n := 4) dX10_readWant_96 ?_
                  refine J_iload_n dX10_readWant_97 rfl ?_
                  refine J_imulN dX10_readWant_98 ?_
                  refine J_iload_n dX10_readWant_99 rfl ?_
                  refine J_iaddN dX10_readWant_100 ?_
                  refine J_iconstN (n := 1) dX10_readWant_101 ?_
                  refine J_zastN dX10_readWant_102 s167 (by decide) (by omega) ?_
                  have hA := hA.s (c := 167) (k := 4 * t + u) (x := vp_nar .boolean (nI 1)) (inD_167 (by omega)) (by decide)
                  have hS := hS.s (c := 167) (k := 4 * t + u) (x := vp_nar .boolean (nI 1)) (by decide)
                  refine J_aload_n dX10_readWant_103 rfl ?_
                  refine J_cVV (ci := 10) (c := 158) (as := []) (st := []) dX10_readWant_104 lX10_179 okX10_scan vX10_scan s158 (by decide) rfl rfl rfl (Nat.le_of_ble_eq_true rfl) ⟨Nat.le_of_ble_eq_true rfl, Nat.le_of_ble_eq_true rfl⟩ CR.f (c_X10_scan (h := sI (gs2) 167 (4 * t + u) (vp_nar .boolean (nI 1))) hG hA.2.1.1 hA.1.2.2.2.1 (tkE_le (rn_le hA.2.1.2))) (fun gs3 es3 => ?_)
                  have hS := hS.ms es3.1
                  have hA1 := hA.w (k := 4) (c := 1) rfl q2 (by rw [nF4_1, hqu]; exact (if_neg (by omega)).trans (if_neg (show ¬ S.2.2.2 (4 * t + u) = 1 by omega))) es3.2 (hA.2.1.1.ms es3.1) (hA.2.2.2.2.ms es3.1)
                  rw [nmS_4, nI4_1 hqu] at hA1
                  obtain ⟨ps3, hA⟩ := hA1.x
                  clear hA1
                  have hG := es3.1.g hG
                  have hst := stM_b (K := tkK T n (rn cBl T n ps3))
                  refine J_iconstN (n := 0) dX10_readWant_107 ?_
                  refine J_istore_n (L' := [some (pR (some 158)), some (pI (nI t)), some (pI (nI u)), some (pI (nI 0)), none]) dX10_readWant_108 (by decide) rfl ?_
                  refine J_iconstN (n := 0) dX10_readWant_109 ?_
                  refine J_istore (L' := [some (pR (some 158)), some (pI (nI t)), some (pI (nI u)), some (pI (nI 0)), some (pI (nI 0))]) dX10_readWant_110 (by decide) rfl ?_
                  refine J_iload dX10_readWant_112 rfl ?_
                  refine J_iconstN (n := 5) dX10_readWant_114 ?_
                  refine J_icmp_geN dX10_readWant_115 (by decide) (by decide) (fun c0 => absurd c0 (by decide)) (fun c0 => ?_)
                  refine J_iload dX10_readWant_118 rfl ?_
                  refine J_iconstN (n := 3) dX10_readWant_120 ?_
                  refine J_icmp_neN dX10_readWant_121 (by decide) (by decide) (fun c0 => ?_) (fun c0 => absurd c0 (by decide))
                  refine J_aload_n dX10_readWant_135 rfl ?_
                  refine J_iconstN (n := 0) dX10_readWant_136 ?_
                  refine J_iload dX10_readWant_137 rfl ?_
                  refine J_iconstN (n := 4) dX10_readWant_139 ?_
                  refine J_icmp_neN dX10_readWant_140 (by decide) (by decide) (fun c0 => ?_) (fun c0 => absurd c0 (by decide))
                  refine J_bipush (x := nI 10) dX10_readWant_147 (by decide) ?_
                  refine J_cVI (ci := 10) (c := 158) (as := [pI (nI 0), pI (nI 10)]) (st := []) dX10_readWant_149 lX10_199 okX10_readNumber vX10_readNumber s158 (by decide) rfl rfl rfl (Nat.le_of_ble_eq_true rfl) ⟨Nat.le_of_ble_eq_true rfl, Nat.le_of_ble_eq_true rfl⟩ CR.f (c_X10_readNumber (lo := 0) (hi := 10) hG hA.2.1.1 hA.1 (rn_le hA.2.1.2) (by decide) (by decide)) (fun vn14 gn14 en14 => ?_)
                  have yn14 := en14.1
                  subst yn14
                  refine J_if_neB dX10_readWant_152 (fun c15 => ?_) (fun c15 => ?_)
                  · obtain ⟨pn14, Vn14, hA, mn14, bn14⟩ := hA.nx (fOf_N (k := 4) (c := 2) (lo := 0) (hi := 10) rfl rfl rfl (by decide) (by decide)) c15 en14
                    have hG := mn14.g hG
                    have hS := hS.mg mn14
                    have hst := stM_b (K := tkK T n (rn cBl T n pn14))
                    refine J_aload_n dX10_readWant_157 rfl ?_
                    refine J_getR (r := some 166) dX10_readWant_158 fX10_37 s158 (fun _ => rfl) (g158_18 hG) ?_
                    refine J_bipush (x := nI 80) dX10_readWant_161 (by decide) ?_
                    refine J_iconstN (n := 5) dX10_readWant_163 ?_
                    refine J_iconstN (n := 4) dX10_readWant_164 ?_
                    refine J_iload_n dX10_readWant_165 rfl ?_
                    refine J_imulN dX10_readWant_166 ?_
                    refine J_iload_n dX10_readWant_167 rfl ?_
                    refine J_iaddN dX10_readWant_168 ?_
                    refine J_imulN dX10_readWant_169 ?_
                    refine J_iaddN dX10_readWant_170 ?_
                    refine J_iload dX10_readWant_171 rfl ?_
                    refine J_iaddN dX10_readWant_173 ?_
                    refine J_aload_n dX10_readWant_174 rfl ?_
                    refine J_getI dX10_readWant_175 fX10_176 s158 (fun _ => rfl) ?_
                    refine J_cvI (mn14.2.2.2.2) ?_
                    refine J_iastN dX10_readWant_178 s166 (by decide) (by omega) ?_
                    have hA := hA.s (c := 166) (k := 80 + 5 * (4 * t + u) + 0) (x := nI Vn14) (inD_166 (by omega)) (by decide)
                    have hS := hS.s (c := 166) (k := 80 + 5 * (4 * t + u) + 0) (x := nI Vn14) (by decide)
                    refine J_iload_n dX10_readWant_179 rfl ?_
                    refine J_aload_n dX10_readWant_180 rfl ?_
                    refine J_getI dX10_readWant_181 fX10_176 s158 (fun _ => rfl) ?_
                    refine J_cvI ((rI_c (by decide)).trans (mn14.2.2.2.2)) ?_
                    refine J_iaddN dX10_readWant_184 ?_
                    refine J_istore_n (L' := [some (pR (some 158)), some (pI (nI t)), some (pI (nI u)), some (pI (nI (0 + Vn14))), some (pI (nI 0))]) dX10_readWant_185 (by decide) rfl ?_
                    refine J_iinc (y := nI 1) (L' := [some (pR (some 158)), some (pI (nI t)), some (pI (nI u)), some (pI (nI (0 + Vn14))), some (pI (nI 1))]) dX10_readWant_186 rfl (by decide) (by decide) rfl ?_
                    refine J_goto dX10_readWant_189 ?_
                    refine J_iload dX10_readWant_112 rfl ?_
                    refine J_iconstN (n := 5) dX10_readWant_114 ?_
                    refine J_icmp_geN dX10_readWant_115 (by decide) (by decide) (fun c0 => absurd c0 (by decide)) (fun c0 => ?_)
                    refine J_iload dX10_readWant_118 rfl ?_
                    refine J_iconstN (n := 3) dX10_readWant_120 ?_
                    refine J_icmp_neN dX10_readWant_121 (by decide) (by decide) (fun c0 => ?_) (fun c0 => absurd c0 (by decide))
                    refine J_aload_n dX10_readWant_135 rfl ?_
                    refine J_iconstN (n := 0) dX10_readWant_136 ?_
                    refine J_iload dX10_readWant_137 rfl ?_
                    refine J_iconstN (n := 4) dX10_readWant_139 ?_
                    refine J_icmp_neN dX10_readWant_140 (by decide) (by decide) (fun c0 => ?_) (fun c0 => absurd c0 (by decide))
                    refine J_bipush (x := nI 10) dX10_readWant_147 (by decide) ?_
                    refine J_cVI (ci := 10) (c := 158) (as := [pI (nI 0), pI (nI 10)]) (st := []) dX10_readWant_149 lX10_199 okX10_readNumber vX10_readNumber s158 (by decide) rfl rfl rfl (Nat.le_of_ble_eq_true rfl) ⟨Nat.le_of_ble_eq_true rfl, Nat.le_of_ble_eq_true rfl⟩ CR.f (c_X10_readNumber (lo := 0) (hi := 10) hG hA.2.1.1 hA.1 (rn_le hA.2.1.2) (by decide) (by decide)) (fun vn16 gn16 en16 => ?_)
                    have yn16 := en16.1
                    subst yn16
                    refine J_if_neB dX10_readWant_152 (fun c17 => ?_) (fun c17 => ?_)
                    · obtain ⟨pn16, Vn16, hA, mn16, bn16⟩ := hA.nx (fOf_N (k := 4) (c := 3) (lo := 0) (hi := 10) rfl rfl rfl (by decide) (by decide)) c17 en16
                      have hG := mn16.g hG
                      have hS := hS.mg mn16
                      have hst := stM_b (K := tkK T n (rn cBl T n pn16))
                      refine J_aload_n dX10_readWant_157 rfl ?_
                      refine J_getR (r := some 166) dX10_readWant_158 fX10_37 s158 (fun _ => rfl) (g158_18 hG) ?_
                      refine J_bipush (x := nI 80) dX10_readWant_161 (by decide) ?_
                      refine J_iconstN (n := 5) dX10_readWant_163 ?_
                      refine J_iconstN (n := 4) dX10_readWant_164 ?_
                      refine J_iload_n dX10_readWant_165 rfl ?_
                      refine J_imulN dX10_readWant_166 ?_
                      refine J_iload_n dX10_readWant_167 rfl ?_
                      refine J_iaddN dX10_readWant_168 ?_
                      refine J_imulN dX10_readWant_169 ?_
                      refine J_iaddN dX10_readWant_170 ?_
                      refine J_iload dX10_readWant_171 rfl ?_
                      refine J_iaddN dX10_readWant_173 ?_
                      refine J_aload_n dX10_readWant_174 rfl ?_
                      refine J_getI dX10_readWant_175 fX10_176 s158 (fun _ => rfl) ?_
                      refine J_cvI (mn16.2.2.2.2) ?_
                      refine J_iastN dX10_readWant_178 s166 (by decide) (by omega) ?_
                      have hA := hA.s (c := 166) (k := 80 + 5 * (4 * t + u) + 1) (x := nI Vn16) (inD_166 (by omega)) (by decide)
                      have hS := hS.s (c := 166) (k := 80 + 5 * (4 * t + u) + 1) (x := nI Vn16) (by decide)
                      refine J_iload_n dX10_readWant_179 rfl ?_
                      refine J_aload_n dX10_readWant_180 rfl ?_
                      refine J_getI dX10_readWant_181 fX10_176 s158 (fun _ => rfl) ?_
                      refine J_cvI ((rI_c (by decide)).trans (mn16.2.2.2.2)) ?_
                      refine J_iaddN dX10_readWant_184 ?_
                      refine J_istore_n (L' := [some (pR (some 158)), some (pI (nI t)), some (pI (nI u)), some (pI (nI (0 + Vn14 + Vn16))), some (pI (nI 1))]) dX10_readWant_185 (by decide) rfl ?_
                      refine J_iinc (y := nI 2) (L' := [some (pR (some 158)), some (pI (nI t)), some (pI (nI u)), some (pI (nI (0 + Vn14 + Vn16))), some (pI (nI 2))]) dX10_readWant_186 rfl (by decide) (by decide) rfl ?_
                      refine J_goto dX10_readWant_189 ?_
                      refine J_iload dX10_readWant_112 rfl ?_
                      refine J_iconstN (n := 5) dX10_readWant_114 ?_
                      refine J_icmp_geN dX10_readWant_115 (by decide) (by decide) (fun c0 => absurd c0 (by decide)) (fun c0 => ?_)
                      refine J_iload dX10_readWant_118 rfl ?_
                      refine J_iconstN (n := 3) dX10_readWant_120 ?_
                      refine J_icmp_neN dX10_readWant_121 (by decide) (by decide) (fun c0 => ?_) (fun c0 => absurd c0 (by decide))
                      refine J_aload_n dX10_readWant_135 rfl ?_
                      refine J_iconstN (n := 0) dX10_readWant_136 ?_
                      refine J_iload dX10_readWant_137 rfl ?_
                      refine J_iconstN (n := 4) dX10_readWant_139 ?_
                      refine J_icmp_neN dX10_readWant_140 (by decide) (by decide) (fun c0 => ?_) (fun c0 => absurd c0 (by decide))
                      refine J_bipush (x := nI 10) dX10_readWant_147 (by decide) ?_
                      refine J_cVI (ci := 10) (c := 158) (as := [pI (nI 0), pI (nI 10)]) (st := []) dX10_readWant_149 lX10_199 okX10_readNumber vX10_readNumber s158 (by decide) rfl rfl rfl (Nat.le_of_ble_eq_true rfl) ⟨Nat.le_of_ble_eq_true rfl, Nat.le_of_ble_eq_true rfl⟩ CR.f (c_X10_readNumber (lo := 0) (hi := 10) hG hA.2.1.1 hA.1 (rn_le hA.2.1.2) (by decide) (by decide)) (fun vn18 gn18 en18 => ?_)
                      have yn18 := en18.1
                      subst yn18
                      refine J_if_neB dX10_readWant_152 (fun c19 => ?_) (fun c19 => ?_)
                      · obtain ⟨pn18, Vn18, hA, mn18, bn18⟩ := hA.nx (fOf_N (k := 4) (c := 4) (lo := 0) (hi := 10) rfl rfl rfl (by decide) (by decide)) c19 en18
                        have hG := mn18.g hG
                        have hS := hS.mg mn18
                        have hst := stM_b (K := tkK T n (rn cBl T n pn18))
                        refine J_aload_n dX10_readWant_157 rfl ?_
                        refine J_getR (r := some 166) dX10_readWant_158 fX10_37 s158 (fun _ => rfl) (g158_18 hG) ?_
                        refine J_bipush (x := nI 80) dX10_readWant_161 (by decide) ?_
                        refine J_iconstN (n := 5) dX10_readWant_163 ?_
                        refine J_iconstN (n := 4) dX10_readWant_164 ?_
                        refine J_iload_n dX10_readWant_165 rfl ?_
                        refine J_imulN dX10_readWant_166 ?_
                        refine J_iload_n dX10_readWant_167 rfl ?_
                        refine J_iaddN dX10_readWant_168 ?_
                        refine J_imulN dX10_readWant_169 ?_
                        refine J_iaddN dX10_readWant_170 ?_
                        refine J_iload dX10_readWant_171 rfl ?_
                        refine J_iaddN dX10_readWant_173 ?_
                        refine J_aload_n dX10_readWant_174 rfl ?_
                        refine J_getI dX10_readWant_175 fX10_176 s158 (fun _ => rfl) ?_
                        refine J_cvI (mn18.2.2.2.2) ?_
                        refine J_iastN dX10_readWant_178 s166 (by decide) (by omega) ?_
                        have hA := hA.s (c := 166) (k := 80 + 5 * (4 * t + u) + 2) (x := nI Vn18) (inD_166 (by omega)) (by decide)
                        have hS := hS.s (c := 166) (k := 80 + 5 * (4 * t + u) + 2) (x := nI Vn18) (by decide)
                        refine J_iload_n dX10_readWant_179 rfl ?_
                        refine J_aload_n dX10_readWant_180 rfl ?_
                        refine J_getI dX10_readWant_181 fX10_176 s158 (fun _ => rfl) ?_
                        refine J_cvI ((rI_c (by decide)).trans (mn18.2.2.2.2)) ?_
                        refine J_iaddN dX10_readWant_184 ?_
                        refine J_istore_n (L' := [some (pR (some 158)), some (pI (nI t)), some (pI (nI u)), some (pI (nI (0 + Vn14 + Vn16 + Vn18))), some (pI (nI 2))]) dX10_readWant_185 (by decide) rfl ?_
                        refine J_iinc (y := nI 3) (L' := [some (pR (some 158)), some (pI (nI t)), some (pI (nI u)), some (pI (nI (0 + Vn14 + Vn16 + Vn18))), some (pI (nI 3))]) dX10_readWant_186 rfl (by decide) (by decide) rfl ?_
                        refine J_goto dX10_readWant_189 ?_
                        refine J_iload dX10_readWant_112 rfl ?_
                        refine J_iconstN (n := 5) dX10_readWant_114 ?_
                        refine J_icmp_geN dX10_readWant_115 (by decide) (by decide) (fun c0 => absurd c0 (by decide)) (fun c0 => ?_)
                        refine J_iload dX10_readWant_118 rfl ?_
                        refine J_iconstN (n := 3) dX10_readWant_120 ?_
                        refine J_icmp_neN dX10_readWant_121 (by decide) (by decide) (fun c0 => absurd c0 (by decide)) (fun c0 => ?_)
                        refine J_aload_n dX10_readWant_124 rfl ?_
                        refine J_iload_n dX10_readWant_125 rfl ?_
                        refine J_cVI (ci := 10) (c := 158) (as := [pI (nI (0 + Vn14 + Vn16 + Vn18))]) (st := []) dX10_readWant_126 lX10_196 okX10_readLast vX10_readLast s158 (by decide) rfl rfl rfl (Nat.le_of_ble_eq_true rfl) ⟨Nat.le_of_ble_eq_true rfl, Nat.le_of_ble_eq_true rfl⟩ CR.f (c_X10_readLast (m := 0 + Vn14 + Vn16 + Vn18) hG hA.2.1.1 hA.1 (rn_le hA.2.1.2) (by omega)) (fun vn20 gn20 en20 => ?_)
                        have yn20 := en20.1
                        subst yn20
                        refine J_if_eqB dX10_readWant_129 (fun c21 => ?_) (fun c21 => ?_)
                        · refine J_iconstN (n := 0) dX10_readWant_155 ?_
                          exact J_retZ dX10_readWant_156 rfl rfl (Or.inl ⟨rfl, hA.nb (fOf_L (k := 4) (c := 5) (m := 0 + Vn14 + Vn16 + Vn18) rfl rfl rfl (by decide) (by decide) (by show 0 + Vn14 + Vn16 + Vn18 = _; omega)) c21 en20⟩)
                        · obtain ⟨pn20, Vn20, hA, mn20, bn20⟩ := hA.lx (fOf_L (k := 4) (c := 5) (m := 0 + Vn14 + Vn16 + Vn18) rfl rfl rfl (by decide) (by decide) (by show 0 + Vn14 + Vn16 + Vn18 = _; omega)) c21 en20
                          have hG := mn20.g hG
                          have hS := hS.mg mn20
                          have hst := stM_b (K := tkK T n (rn cBl T n pn20))
                          refine J_goto dX10_readWant_132 ?_
                          refine J_aload_n dX10_readWant_157 rfl ?_
                          refine J_getR (r := some 166) dX10_readWant_158 fX10_37 s158 (fun _ => rfl) (g158_18 hG) ?_
                          refine J_bipush (x := nI 80) dX10_readWant_161 (by decide) ?_
                          refine J_iconstN (n := 5) dX10_readWant_163 ?_
                          refine J_iconstN (n := 4) dX10_readWant_164 ?_
                          refine J_iload_n dX10_readWant_165 rfl ?_
                          refine J_imulN dX10_readWant_166 ?_
                          refine J_iload_n dX10_readWant_167 rfl ?_
                          refine J_iaddN dX10_readWant_168 ?_
                          refine J_imulN dX10_readWant_169 ?_
                          refine J_iaddN dX10_readWant_170 ?_
                          refine J_iload dX10_readWant_171 rfl ?_
                          refine J_iaddN dX10_readWant_173 ?_
                          refine J_aload_n dX10_readWant_174 rfl ?_
                          refine J_getI dX10_readWant_175 fX10_176 s158 (fun _ => rfl) ?_
                          refine J_cvI (mn20.2.2.2.2) ?_
                          refine J_iastN dX10_readWant_178 s166 (by decide) (by omega) ?_
                          have hA := hA.s (c := 166) (k := 80 + 5 * (4 * t + u) + 3) (x := nI Vn20) (inD_166 (by omega)) (by decide)
                          have hS := hS.s (c := 166) (k := 80 + 5 * (4 * t + u) + 3) (x := nI Vn20) (by decide)
                          refine J_iload_n dX10_readWant_179 rfl ?_
                          refine J_aload_n dX10_readWant_180 rfl ?_
                          refine J_getI dX10_readWant_181 fX10_176 s158 (fun _ => rfl) ?_
                          refine J_cvI ((rI_c (by decide)).trans (mn20.2.2.2.2)) ?_
                          refine J_iaddN dX10_readWant_184 ?_
                          refine J_istore_n (L' := [some (pR (some 158)), some (pI (nI t)), some (pI (nI u)), some (pI (nI (0 + Vn14 + Vn16 + Vn18 + Vn20))), some (pI (nI 3))]) dX10_readWant_185 (by decide) rfl ?_
                          refine J_iinc (y := nI 4) (L' := [some (pR (some 158)), some (pI (nI t)), some (pI (nI u)), some (pI (nI (0 + Vn14 + Vn16 + Vn18 + Vn20))), some (pI (nI 4))]) dX10_readWant_186 rfl (by decide) (by decide) rfl ?_
                          refine J_goto dX10_readWant_189 ?_
                          refine J_iload dX10_readWant_112 rfl ?_
                          refine J_iconstN (n := 5) dX10_readWant_114 ?_
                          refine J_icmp_geN dX10_readWant_115 (by decide) (by decide) (fun c0 => absurd c0 (by decide)) (fun c0 => ?_)
                          refine J_iload dX10_readWant_118 rfl ?_
                          refine J_iconstN (n := 3) dX10_readWant_120 ?_
                          refine J_icmp_neN dX10_readWant_121 (by decide) (by decide) (fun c0 => ?_) (fun c0 => absurd c0 (by decide))
                          refine J_aload_n dX10_readWant_135 rfl ?_
                          refine J_iconstN (n := 0) dX10_readWant_136 ?_
                          refine J_iload dX10_readWant_137 rfl ?_
                          refine J_iconstN (n := 4) dX10_readWant_139 ?_
                          refine J_icmp_neN dX10_readWant_140 (by decide) (by decide) (fun c0 => absurd c0 (by decide)) (fun c0 => ?_)
                          refine J_iconstN (n := 3) dX10_readWant_143 ?_
                          refine J_goto dX10_readWant_144 ?_
                          refine J_cVI (ci := 10) (c := 158) (as := [pI (nI 0), pI (nI 3)]) (st := []) dX10_readWant_149 lX10_199 okX10_readNumber vX10_readNumber s158 (by decide) rfl rfl rfl (Nat.le_of_ble_eq_true rfl) ⟨Nat.le_of_ble_eq_true rfl, Nat.le_of_ble_eq_true rfl⟩ CR.f (c_X10_readNumber (lo := 0) (hi := 3) hG hA.2.1.1 hA.1 (rn_le hA.2.1.2) (by decide) (by decide)) (fun vn22 gn22 en22 => ?_)
                          have yn22 := en22.1
                          subst yn22
                          refine J_if_neB dX10_readWant_152 (fun c23 => ?_) (fun c23 => ?_)
                          · obtain ⟨pn22, Vn22, hA, mn22, bn22⟩ := hA.nx (fOf_N (k := 4) (c := 6) (lo := 0) (hi := 3) rfl rfl rfl (by decide) (by decide)) c23 en22
                            have hG := mn22.g hG
                            have hS := hS.mg mn22
                            have hst := stM_b (K := tkK T n (rn cBl T n pn22))
                            refine J_aload_n dX10_readWant_157 rfl ?_
                            refine J_getR (r := some 166) dX10_readWant_158 fX10_37 s158 (fun _ => rfl) (g158_18 hG) ?_
                            refine J_bipush (x := nI 80) dX10_readWant_161 (by decide) ?_
                            refine J_iconstN (n := 5) dX10_readWant_163 ?_
                            refine J_iconstN (n := 4) dX10_readWant_164 ?_
                            refine J_iload_n dX10_readWant_165 rfl ?_
                            refine J_imulN dX10_readWant_166 ?_
                            refine J_iload_n dX10_readWant_167 rfl ?_
                            refine J_iaddN dX10_readWant_168 ?_
                            refine J_imulN dX10_readWant_169 ?_
                            refine J_iaddN dX10_readWant_170 ?_
                            refine J_iload dX10_readWant_171 rfl ?_
                            refine J_iaddN dX10_readWant_173 ?_
                            refine J_aload_n dX10_readWant_174 rfl ?_
                            refine J_getI dX10_readWant_175 fX10_176 s158 (fun _ => rfl) ?_
                            refine J_cvI (mn22.2.2.2.2) ?_
                            refine J_iastN dX10_readWant_178 s166 (by decide) (by omega) ?_
                            have hA := hA.s (c := 166) (k := 80 + 5 * (4 * t + u) + 4) (x := nI Vn22) (inD_166 (by omega)) (by decide)
                            have hS := hS.s (c := 166) (k := 80 + 5 * (4 * t + u) + 4) (x := nI Vn22) (by decide)
                            refine J_iload_n dX10_readWant_179 rfl ?_
                            refine J_aload_n dX10_readWant_180 rfl ?_
                            refine J_getI dX10_readWant_181 fX10_176 s158 (fun _ => rfl) ?_
                            refine J_cvI ((rI_c (by decide)).trans (mn22.2.2.2.2)) ?_
                            refine J_iaddN dX10_readWant_184 ?_
                            refine J_istore_n (L' := [some (pR (some 158)), some (pI (nI t)), some (pI (nI u)), some (pI (nI (0 + Vn14 + Vn16 + Vn18 + Vn20 + Vn22))), some (pI (nI 4))]) dX10_readWant_185 (by decide) rfl ?_
                            refine J_iinc (y := nI 5) (L' := [some (pR (some 158)), some (pI (nI t)), some (pI (nI u)), some (pI (nI (0 + Vn14 + Vn16 + Vn18 + Vn20 + Vn22))), some (pI (nI 5))]) dX10_readWant_186 rfl (by decide) (by decide) rfl ?_
                            refine J_goto dX10_readWant_189 ?_
                            refine J_iload dX10_readWant_112 rfl ?_
                            refine J_iconstN (n := 5) dX10_readWant_114 ?_
                            refine J_icmp_geN dX10_readWant_115 (by decide) (by decide) (fun c0 => ?_) (fun c0 => absurd c0 (by decide))
                            refine J_iconstN (n := 1) dX10_readWant_192 ?_
                            exact J_retZ dX10_readWant_193 rfl rfl (Or.inr ⟨rfl, _, _, _, _, hA, rfl, (Md_want0 hD (by omega) (by omega) t4 (by decide) (by rfl) (by rfl) (by rfl) (by rfl) (by rfl) (by rfl) (by rfl)).sh hS, rfl⟩)
                          · refine J_iconstN (n := 0) dX10_readWant_155 ?_
                            exact J_retZ dX10_readWant_156 rfl rfl (Or.inl ⟨rfl, hA.nb (fOf_N (k := 4) (c := 6) (lo := 0) (hi := 3) rfl rfl rfl (by decide) (by decide)) c23 en22⟩)
                      · refine J_iconstN (n := 0) dX10_readWant_155 ?_
                        exact J_retZ dX10_readWant_156 rfl rfl (Or.inl ⟨rfl, hA.nb (fOf_N (k := 4) (c := 4) (lo := 0) (hi := 10) rfl rfl rfl (by decide) (by decide)) c19 en18⟩)
                    · refine J_iconstN (n := 0) dX10_readWant_155 ?_
                      exact J_retZ dX10_readWant_156 rfl rfl (Or.inl ⟨rfl, hA.nb (fOf_N (k := 4) (c := 3) (lo := 0) (hi := 10) rfl rfl rfl (by decide) (by decide)) c17 en16⟩)
                  · refine J_iconstN (n := 0) dX10_readWant_155 ?_
                    exact J_retZ dX10_readWant_156 rfl rfl (Or.inl ⟨rfl, hA.nb (fOf_N (k := 4) (c := 2) (lo := 0) (hi := 10) rfl rfl rfl (by decide) (by decide)) c15 en14⟩)
                · exact absurd a6 (nI_m1 (by omega))
              · refine J_aload_n dX10_readWant_75 rfl ?_
                refine J_iconstN (n := 3) dX10_readWant_76 ?_
                refine J_cVI (ci := 10) (c := 158) (as := [pI (nI 3)]) (st := []) dX10_readWant_77 lX10_169 okX10_fails vX10_fails s158 (by decide) rfl rfl rfl (Nat.le_of_ble_eq_true rfl) ⟨Nat.le_of_ble_eq_true rfl, Nat.le_of_ble_eq_true rfl⟩ CR.f (c_X10_fails (k := 3) hA.1.2.2.1) (fun vf24 gf24 ef24 => ?_)
                rw [ef24.1, ef24.2]
                exact J_retZ dX10_readWant_80 rfl rfl (Or.inl ⟨rfl, hA.wb (k := 4) (c := 1) rfl q2 (by rw [nF4_1, hqu]; exact (if_neg (by omega)).trans (if_pos (show S.2.2.2 (4 * t + u) = 1 by omega))) (by decide)⟩)
        · refine J_aload_n dX10_readWant_46 rfl ?_
          refine J_iconstN (n := 1) dX10_readWant_47 ?_
          refine J_cVI (ci := 10) (c := 158) (as := [pI (nI 1)]) (st := []) dX10_readWant_48 lX10_169 okX10_fails vX10_fails s158 (by decide) rfl rfl rfl (Nat.le_of_ble_eq_true rfl) ⟨Nat.le_of_ble_eq_true rfl, Nat.le_of_ble_eq_true rfl⟩ CR.f (c_X10_fails (k := 1) hA.1.2.2.1) (fun vf25 gf25 ef25 => ?_)
          rw [ef25.1, ef25.2]
          exact J_retZ dX10_readWant_51 rfl rfl (Or.inl ⟨rfl, hA.w1 (k := 4) (c := 1) rfl (fun y => a3 ((st_1 tkK_b).mpr y))⟩)
      · exact absurd a2 (nI_m1 (by omega))
  · refine J_aload_n dX10_readWant_12 rfl ?_
    refine J_iconstN (n := 1) dX10_readWant_13 ?_
    refine J_cVI (ci := 10) (c := 158) (as := [pI (nI 1)]) (st := []) dX10_readWant_14 lX10_169 okX10_fails vX10_fails s158 (by decide) rfl rfl rfl (Nat.le_of_ble_eq_true rfl) ⟨Nat.le_of_ble_eq_true rfl, Nat.le_of_ble_eq_true rfl⟩ CR.f (c_X10_fails (k := 1) hA.1.2.2.1) (fun vf26 gf26 ef26 => ?_)
    rw [ef26.1, ef26.2]
    exact J_retZ dX10_readWant_17 rfl rfl (Or.inl ⟨rfl, hA.w1 (k := 4) (c := 0) rfl (fun y => a1 ((st_1 tkK_b).mpr y))⟩)
theorem c_X10_readInstead {R : (Nat × Nat) × PS} {h0 h : PH} {T : Nat → Int32} {n p c : Nat} {num : Nat → Nat} {S : PS} (hG : GR h.2.2) (hA : At R h0 h T n (S, 0, c, num) p) (hD : Md h S) (hK : tkK T n (rn cBl T n p) = 2) (hkw : kw (tkV T n (rn cBl T n p)) = 6) : CtI mX10_readInstead h [pR (some 158)] (fun v h' => Rr R h0 h' T n 5 (S.1 0 5 0) v) := by
  have w4 : S.1 0 2 0 ≤ 4 := hA.2.2.1.1.1.1.2.2.1
  have t4 : S.1 0 3 0 ≤ 4 := hA.2.2.1.1.1.1.2.2.2.1
  have f6 : S.1 0 4 0 ≤ 6 := hA.2.2.1.1.1.1.2.2.2.2.1
  refine Ct.of (L := [some (pR (some 158)), none, none]) rfl rfl (Nat.le_of_ble_eq_true rfl) rfl ?_
  refine J_aload_n dX10_readInstead_0 rfl ?_
  refine J_cVV (ci := 10) (c := 158) (as := []) (st := []) dX10_readInstead_1 lX10_179 okX10_scan vX10_scan s158 (by decide) rfl rfl rfl (Nat.le_of_ble_eq_true rfl) ⟨Nat.le_of_ble_eq_true rfl, Nat.le_of_ble_eq_true rfl⟩ CR.f (c_X10_scan hG hA.2.1.1 hA.1.2.2.2.1 (tkE_le (rn_le hA.2.1.2))) (fun gs1 es1 => ?_)
  obtain ⟨ps1, hA⟩ := (hA.kg hK hkw rfl es1.2 es1.1).x
  have hG := es1.1.g hG
  have hS : Sh gs1 h := Sh.rf.ms es1.1
  have hD1 := hD.sh hS
  have h7 : gs1.1 160 7 = nI (S.1 0 2 0) := hD1.1 2 (by decide)
  have h8 : gs1.1 160 8 = nI (S.1 0 3 0) := hD1.1 3 (by decide)
  have hst := stM_b (K := tkK T n (rn cBl T n ps1))
  refine J_aload_n dX10_readInstead_4 rfl ?_
  refine J_getI dX10_readInstead_5 fX10_141 s158 (fun _ => rfl) ?_
  refine J_cvI (hA.1.1) ?_
  refine J_iconstN (n := 1) dX10_readInstead_8 ?_
  refine J_icmp_eqN dX10_readInstead_9 (by omega) (by omega) (fun a1 => ?_) (fun a1 => ?_)
  · have q2 := (st_1 tkK_b).mp a1
    have hw := hA.1.2.2.2.2.1 q2
    have hVb := tkV_40 q2
    refine J_aload_n dX10_readInstead_18 rfl ?_
    refine J_cVI (ci := 10) (c := 158) (as := []) (st := []) dX10_readInstead_19 lX10_203 okX10_thingNamed vX10_thingNamed s158 (by decide) rfl rfl rfl (Nat.le_of_ble_eq_true rfl) ⟨Nat.le_of_ble_eq_true rfl, Nat.le_of_ble_eq_true rfl⟩ CR.f (c_X10_thingNamed (V := tkV T n (rn cBl T n ps1)) (c := S.1 0 3 0) (g := S.2.1 3) hG h8 t4 hD1.2.2.2.2.2.2.2.2.1.2.1 hw (tkV_40 q2)) (fun vq2 gq2 eq2 => ?_)
    rw [eq2.2, eq2.1]
    have hxt := fdN_le (g := S.2.1 3) (V := tkV T n (rn cBl T n ps1)) (S.1 0 3 0)
    rcases hqt : fdN (S.2.1 3) (tkV T n (rn cBl T n ps1)) (S.1 0 3 0) with _ | t
    · refine J_cvI (show hlp 0 = -1 from rfl) ?_
      refine J_istore_n (L' := [some (pR (some 158)), some (pI ((-1))), none]) dX10_readInstead_22 (by decide) rfl ?_
      refine J_iload_n dX10_readInstead_23 rfl ?_
      refine J_iconst (x := -1) dX10_readInstead_24 (by decide) ?_
      refine J_icmp_ne dX10_readInstead_25 (fun a2 => ?_) (fun a2 => ?_)
      · exact absurd rfl a2
      · refine J_aload_n dX10_readInstead_28 rfl ?_
        refine J_iconstN (n := 5) dX10_readInstead_29 ?_
        refine J_cVI (ci := 10) (c := 158) (as := [pI (nI 5)]) (st := []) dX10_readInstead_30 lX10_169 okX10_fails vX10_fails s158 (by decide) rfl rfl rfl (Nat.le_of_ble_eq_true rfl) ⟨Nat.le_of_ble_eq_true rfl, Nat.le_of_ble_eq_true rfl⟩ CR.f (c_X10_fails (k := 5) hA.1.2.2.1) (fun vf4 gf4 ef4 => ?_)
        rw [ef4.1, ef4.2]
        exact J_retZ dX10_readInstead_33 rfl rfl (Or.inl ⟨rfl, hA.wb (k := 5) (c := 0) rfl q2 (by rw [nF5_0, hqt]; rfl) (by decide)⟩)
    · refine J_cvI (show hlp (t + 1) = nI t from rfl) ?_
      refine J_istore_n (L' := [some (pR (some 158)), some (pI (nI t)), none]) dX10_readInstead_22 (by decide) rfl ?_
      refine J_iload_n dX10_readInstead_23 rfl ?_
      refine J_iconst (x := -1) dX10_readInstead_24 (by decide) ?_
      refine J_icmp_ne dX10_readInstead_25 (fun a2 => ?_) (fun a2 => ?_)
      · refine J_aload_n dX10_readInstead_34 rfl ?_
        refine J_cVV (ci := 10) (c := 158) (as := []) (st := []) dX10_readInstead_35 lX10_179 okX10_scan vX10_scan s158 (by decide) rfl rfl rfl (Nat.le_of_ble_eq_true rfl) ⟨Nat.le_of_ble_eq_true rfl, Nat.le_of_ble_eq_true rfl⟩ CR.f (c_X10_scan (h := gs1) hG hA.2.1.1 hA.1.2.2.2.1 (tkE_le (rn_le hA.2.1.2))) (fun gs2 es2 => ?_)
        have hS := hS.ms es2.1
        have hA1 := hA.w (k := 5) (c := 0) rfl q2 (by rw [nF5_0, hqt]; rfl) es2.2 (hA.2.1.1.ms es2.1) (hA.2.2.2.2.ms es2.1)
        rw [nmS_5, nI5_0 hqt] at hA1
        obtain ⟨ps2, hA⟩ := hA1.x
        clear hA1
        have hG := es2.1.g hG
        have hD1 := hD.sh hS
        have h7 : gs2.1 160 7 = nI (S.1 0 2 0) := hD1.1 2 (by decide)
        have h8 : gs2.1 160 8 = nI (S.1 0 3 0) := hD1.1 3 (by decide)
        have hst := stM_b (K := tkK T n (rn cBl T n ps2))
        refine J_aload_n dX10_readInstead_38 rfl ?_
        refine J_getI dX10_readInstead_39 fX10_141 s158 (fun _ => rfl) ?_
        refine J_cvI (hA.1.1) ?_
        refine J_iconstN (n := 1) dX10_readInstead_42 ?_
        refine J_icmp_eqN dX10_readInstead_43 (by omega) (by omega) (fun a3 => ?_) (fun a3 => ?_)
        · have q2 := (st_1 tkK_b).mp a3
          have hw := hA.1.2.2.2.2.1 q2
          have hVb := tkV_40 q2
          refine J_aload_n dX10_readInstead_52 rfl ?_
          refine J_cVI (ci := 10) (c := 158) (as := []) (st := []) dX10_readInstead_53 lX10_203 okX10_thingNamed vX10_thingNamed s158 (by decide) rfl rfl rfl (Nat.le_of_ble_eq_true rfl) ⟨Nat.le_of_ble_eq_true rfl, Nat.le_of_ble_eq_true rfl⟩ CR.f (c_X10_thingNamed (V := tkV T n (rn cBl T n ps2)) (c := S.1 0 3 0) (g := S.2.1 3) hG h8 t4 hD1.2.2.2.2.2.2.2.2.1.2.1 hw (tkV_40 q2)) (fun vq7 gq7 eq7 => ?_)
          rw [eq7.2, eq7.1]
          have hxu := fdN_le (g := S.2.1 3) (V := tkV T n (rn cBl T n ps2)) (S.1 0 3 0)
          rcases hqu : fdN (S.2.1 3) (tkV T n (rn cBl T n ps2)) (S.1 0 3 0) with _ | u
          · refine J_cvI (show hlp 0 = -1 from rfl) ?_
            refine J_istore_n (L' := [some (pR (some 158)), some (pI (nI t)), some (pI ((-1)))]) dX10_readInstead_56 (by decide) rfl ?_
            refine J_iload_n dX10_readInstead_57 rfl ?_
            refine J_iconst (x := -1) dX10_readInstead_58 (by decide) ?_
            refine J_icmp_eq dX10_readInstead_59 (fun a4 => ?_) (fun a4 => ?_)
            · refine J_iload_n dX10_readInstead_85 rfl ?_
              refine J_iconst (x := -1) dX10_readInstead_86 (by decide) ?_
              refine J_icmp_ne dX10_readInstead_87 (fun a6 => ?_) (fun a6 => ?_)
              · exact absurd rfl a6
              · refine J_aload_n dX10_readInstead_90 rfl ?_
                refine J_iconstN (n := 5) dX10_readInstead_91 ?_
                refine J_cVI (ci := 10) (c := 158) (as := [pI (nI 5)]) (st := []) dX10_readInstead_92 lX10_169 okX10_fails vX10_fails s158 (by decide) rfl rfl rfl (Nat.le_of_ble_eq_true rfl) ⟨Nat.le_of_ble_eq_true rfl, Nat.le_of_ble_eq_true rfl⟩ CR.f (c_X10_fails (k := 5) hA.1.2.2.1) (fun vf10 gf10 ef10 => ?_)
                rw [ef10.1, ef10.2]
                exact J_retZ dX10_readInstead_95 rfl rfl (Or.inl ⟨rfl, hA.wb (k := 5) (c := 1) rfl q2 (by rw [nF5_1, hqu]; rfl) (by decide)⟩)
            · exact absurd rfl a4
          · refine J_cvI (show hlp (u + 1) = nI u from rfl) ?_
            refine J_istore_n (L' := [some (pR (some 158)), some (pI (nI t)), some (pI (nI u))]) dX10_readInstead_56 (by decide) rfl ?_
            refine J_iload_n dX10_readInstead_57 rfl ?_
            refine J_iconst (x := -1) dX10_readInstead_58 (by decide) ?_
            refine J_icmp_eq dX10_readInstead_59 (fun a4 => ?_) (fun a4 => ?_)
            · exact absurd a4 (nI_m1 (by omega))
            · refine J_iload_n dX10_readInstead_62 rfl ?_
              refine J_iload_n dX10_readInstead_63 rfl ?_
              refine J_icmp_eqN dX10_readInstead_64 (by omega) (by omega) (fun a5 => ?_) (fun a5 => ?_)
              · refine J_aload_n dX10_readInstead_79 rfl ?_
                refine J_iconstN (n := 3) dX10_readInstead_80 ?_
                refine J_cVI (ci := 10) (c := 158) (as := [pI (nI 3)]) (st := []) dX10_readInstead_81 lX10_169 okX10_fails vX10_fails s158 (by decide) rfl rfl rfl (Nat.le_of_ble_eq_true rfl) ⟨Nat.le_of_ble_eq_true rfl, Nat.le_of_ble_eq_true rfl⟩ CR.f (c_X10_fails (k := 3) hA.1.2.2.1) (fun vf13 gf13 ef13 => ?_)
                rw [ef13.1, ef13.2]
                exact J_retZ dX10_readInstead_84 rfl rfl (Or.inl ⟨rfl, hA.wb (k := 5) (c := 1) rfl q2 (by rw [nF5_1, hqu]; exact (if_neg (by omega)).trans (if_pos (show u = t ∨ S.1 4 u 0 ≠ 0 from Or.inl (by omega)))) (by decide)⟩)
              · have hht : S.1 4 u 0 ≤ S.1 0 3 0 := (hA.2.2.1.1.1.2.2.2.2.1 u (show u < S.1 0 3 0 by omega)).1
                have hi8 : gs2.1 168 (4 + u) = hlp (S.1 4 u 0) := by have z := hD1.2.2.2.2.2.1 u (by omega); rw [if_pos (by omega)] at z; exact z
                refine J_aload_n dX10_readInstead_67 rfl ?_
                refine J_getR (r := some 168) dX10_readInstead_68 fX10_44 s158 (fun _ => rfl) (g158_20 hG) ?_
                refine J_iconstN (n := 4) dX10_readInstead_71 ?_
                refine J_iload_n dX10_readInstead_72 rfl ?_
                refine J_iaddN dX10_readInstead_73 ?_
                refine J_ialdN dX10_readInstead_74 s168 (by decide) (by omega) ?_
                refine J_cvI (hi8) ?_
                refine J_iconst (x := -1) dX10_readInstead_75 (by decide) ?_
                refine J_icmp_eq dX10_readInstead_76 (fun a7 => ?_) (fun a7 => ?_)
                · refine J_iload_n dX10_readInstead_85 rfl ?_
                  refine J_iconst (x := -1) dX10_readInstead_86 (by decide) ?_
                  refine J_icmp_ne dX10_readInstead_87 (fun a6 => ?_) (fun a6 => ?_)
                  · refine J_aload_n dX10_readInstead_96 rfl ?_
                    refine J_cVV (ci := 10) (c := 158) (as := []) (st := []) dX10_readInstead_97 lX10_179 okX10_scan vX10_scan s158 (by decide) rfl rfl rfl (Nat.le_of_ble_eq_true rfl) ⟨Nat.le_of_ble_eq_true rfl, Nat.le_of_ble_eq_true rfl⟩ CR.f (c_X10_scan (h := gs2) hG hA.2.1.1 hA.1.2.2.2.1 (tkE_le (rn_le hA.2.1.2))) (fun gs3 es3 => ?_)
                    have hS := hS.ms es3.1
                    have hA1 := hA.w (k := 5) (c := 1) rfl q2 (by rw [nF5_1, hqu]; exact (if_neg (by omega)).trans (if_neg (show ¬ (u = t ∨ S.1 4 u 0 ≠ 0) from fun y => y.elim (fun z => a5 (by omega)) (fun z => z ((hlp_m1 (by omega)).mp a7))))) es3.2 (hA.2.1.1.ms es3.1) (hA.2.2.2.2.ms es3.1)
                    rw [nmS_5, nI5_1 hqu] at hA1
                    obtain ⟨ps3, hA⟩ := hA1.x
                    clear hA1
                    have hG := es3.1.g hG
                    have hst := stM_b (K := tkK T n (rn cBl T n ps3))
                    refine J_aload_n dX10_readInstead_100 rfl ?_
                    refine J_iconstN (n := 0) dX10_readInstead_101 ?_
                    refine J_bipush (x := nI 100) dX10_readInstead_102 (by decide) ?_
                    refine J_cVI (ci := 10) (c := 158) (as := [pI (nI 0), pI (nI 100)]) (st := []) dX10_readInstead_104 lX10_199 okX10_readNumber vX10_readNumber s158 (by decide) rfl rfl rfl (Nat.le_of_ble_eq_true rfl) ⟨Nat.le_of_ble_eq_true rfl, Nat.le_of_ble_eq_true rfl⟩ CR.f (c_X10_readNumber (lo := 0) (hi := 100) hG hA.2.1.1 hA.1 (rn_le hA.2.1.2) (by decide) (by decide)) (fun vn16 gn16 en16 => ?_)
                    have yn16 := en16.1
                    subst yn16
                    refine J_if_neB dX10_readInstead_107 (fun c17 => ?_) (fun c17 => ?_)
                    · obtain ⟨pn16, Vn16, hA, mn16, bn16⟩ := hA.nx (fOf_N (k := 5) (c := 2) (lo := 0) (hi := 100) rfl rfl rfl (by decide) (by decide)) c17 en16
                      have hG := mn16.g hG
                      have hS := hS.mg mn16
                      have hst := stM_b (K := tkK T n (rn cBl T n pn16))
                      refine J_aload_n dX10_readInstead_112 rfl ?_
                      refine J_getR (r := some 168) dX10_readInstead_113 fX10_44 s158 (fun _ => rfl) (g158_20 hG) ?_
                      refine J_iconstN (n := 4) dX10_readInstead_116 ?_
                      refine J_iload_n dX10_readInstead_117 rfl ?_
                      refine J_iaddN dX10_readInstead_118 ?_
                      refine J_iload_n dX10_readInstead_119 rfl ?_
                      refine J_iastN dX10_readInstead_120 s168 (by decide) (by omega) ?_
                      have hA := hA.s (c := 168) (k := 4 + u) (x := nI t) (inD_168 (by omega)) (by decide)
                      have hS := hS.s (c := 168) (k := 4 + u) (x := nI t) (by decide)
                      refine J_aload_n dX10_readInstead_121 rfl ?_
                      refine J_getR (r := some 169) dX10_readInstead_122 fX10_47 s158 (fun _ => rfl) ((xRI).trans (g158_21 hG)) ?_
                      refine J_iconstN (n := 4) dX10_readInstead_125 ?_
                      refine J_iload_n dX10_readInstead_126 rfl ?_
                      refine J_iaddN dX10_readInstead_127 ?_
                      refine J_aload_n dX10_readInstead_128 rfl ?_
                      refine J_getI dX10_readInstead_129 fX10_176 s158 (fun _ => rfl) ?_
                      refine J_cvI ((rI_c (by decide)).trans (mn16.2.2.2.2)) ?_
                      refine J_iastN dX10_readInstead_132 s169 (by decide) (by omega) ?_
                      have hA := hA.s (c := 169) (k := 4 + u) (x := nI Vn16) (inD_169 (by omega)) (by decide)
                      have hS := hS.s (c := 169) (k := 4 + u) (x := nI Vn16) (by decide)
                      refine J_iconstN (n := 1) dX10_readInstead_133 ?_
                      exact J_retZ dX10_readInstead_134 rfl rfl (Or.inr ⟨rfl, _, _, _, _, hA, rfl, (Md_inst0 hD (by omega) t4 (by rfl) (by rfl) (by rfl)).sh hS, rfl⟩)
                    · refine J_iconstN (n := 0) dX10_readInstead_110 ?_
                      exact J_retZ dX10_readInstead_111 rfl rfl (Or.inl ⟨rfl, hA.nb (fOf_N (k := 5) (c := 2) (lo := 0) (hi := 100) rfl rfl rfl (by decide) (by decide)) c17 en16⟩)
                  · exact absurd a6 (nI_m1 (by omega))
                · refine J_aload_n dX10_readInstead_79 rfl ?_
                  refine J_iconstN (n := 3) dX10_readInstead_80 ?_
                  refine J_cVI (ci := 10) (c := 158) (as := [pI (nI 3)]) (st := []) dX10_readInstead_81 lX10_169 okX10_fails vX10_fails s158 (by decide) rfl rfl rfl (Nat.le_of_ble_eq_true rfl) ⟨Nat.le_of_ble_eq_true rfl, Nat.le_of_ble_eq_true rfl⟩ CR.f (c_X10_fails (k := 3) hA.1.2.2.1) (fun vf18 gf18 ef18 => ?_)
                  rw [ef18.1, ef18.2]
                  exact J_retZ dX10_readInstead_84 rfl rfl (Or.inl ⟨rfl, hA.wb (k := 5) (c := 1) rfl q2 (by rw [nF5_1, hqu]; exact (if_neg (by omega)).trans (if_pos (show u = t ∨ S.1 4 u 0 ≠ 0 from Or.inr (fun y => a7 ((hlp_m1 (by omega)).mpr y))))) (by decide)⟩)
        · refine J_aload_n dX10_readInstead_46 rfl ?_
          refine J_iconstN (n := 1) dX10_readInstead_47 ?_
          refine J_cVI (ci := 10) (c := 158) (as := [pI (nI 1)]) (st := []) dX10_readInstead_48 lX10_169 okX10_fails vX10_fails s158 (by decide) rfl rfl rfl (Nat.le_of_ble_eq_true rfl) ⟨Nat.le_of_ble_eq_true rfl, Nat.le_of_ble_eq_true rfl⟩ CR.f (c_X10_fails (k := 1) hA.1.2.2.1) (fun vf19 gf19 ef19 => ?_)
          rw [ef19.1, ef19.2]
          exact J_retZ dX10_readInstead_51 rfl rfl (Or.inl ⟨rfl, hA.w1 (k := 5) (c := 1) rfl (fun y => a3 ((st_1 tkK_b).mpr y))⟩)
      · exact absurd a2 (nI_m1 (by omega))
  · refine J_aload_n dX10_readInstead_12 rfl ?_
    refine J_iconstN (n := 1) dX10_readInstead_13 ?_
    refine J_cVI (ci := 10) (c := 158) (as := [pI (nI 1)]) (st := []) dX10_readInstead_14 lX10_169 okX10_fails vX10_fails s158 (by decide) rfl rfl rfl (Nat.le_of_ble_eq_true rfl) ⟨Nat.le_of_ble_eq_true rfl, Nat.le_of_ble_eq_true rfl⟩ CR.f (c_X10_fails (k := 1) hA.1.2.2.1) (fun vf20 gf20 ef20 => ?_)
    rw [ef20.1, ef20.2]
    exact J_retZ dX10_readInstead_17 rfl rfl (Or.inl ⟨rfl, hA.w1 (k := 5) (c := 0) rfl (fun y => a1 ((st_1 tkK_b).mpr y))⟩)
