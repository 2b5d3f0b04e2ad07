theorem c_X10_scan {h : PH} {T : Nat → Int32} {n p : Nat} (hG : GR h.2.2) (hB : Mt h T n) (h6 : h.1 158 6 = nI p) (hp : p ≤ n) : CtV mX10_scan h [pR (some 158)] (fun h' => Ms h h' ∧ Mk h' T n (rn cBl T n p)) := by
  have hG0 := hG
  have hB0 := hB
  have hn9 := hB.2.2.1
  have hge := rn_ge (c := cBl) (T := T) (n := n) (p := p)
  have hle := rn_le (c := cBl) (T := T) hp
  refine Ct.of (L := [some (pR (some 158)), none, none, none]) rfl rfl (Nat.le_of_ble_eq_true rfl) rfl ?_
  refine J_aload_n dX10_scan_0 rfl ?_
  refine J_getI dX10_scan_1 fX10_132 s158 (fun _ => rfl) ?_
  refine J_cvI (h6) ?_
  refine J_istore_n (L' := [some (pR (some 158)), some (pI (nI p)), none, none]) dX10_scan_4 (by decide) rfl ?_
  refine J_L (L' := [some (pR (some 158)), some (pI (nI (p + 0))), none, none]) rfl ?_
  refine J_forI (α := Unit) (L := fun i1 aa1 => [some (pR (some 158)), some (pI (nI (p + i1))), none, none]) (fun i1 aa1 h1 => h = h1) (e := rn cBl T n p - p) (fun aa1 h1 hI1 => ?_) (fun i1 aa1 h1 hi1 hI1 ih1 => ?_) 0 (()) _ (by omega) (rfl)
  · show J _ _ _ _ _ [some (pR (some 158)), some (pI (nI (p + (rn cBl T n p - p)))), none, none] _ _ h1
    obtain rfl := hI1
    have hnb := mt (byM_c (n := n) (j := rn cBl T n p) hB.2.2.2).2.2.1.mp (rn_out (c := cBl) (T := T) (n := n) (p := p))
    refine J_L (L' := [some (pR (some 158)), some (pI (nI (rn cBl T n p))), none, none]) (by rw [show p + (rn cBl T n p - p) = rn cBl T n p by omega]) ?_
    refine J_aload_n dX10_scan_5 rfl ?_
    refine J_iload_n dX10_scan_6 rfl ?_
    refine J_cVI (ci := 10) (c := 158) (as := [pI (nI (rn cBl T n p))]) (st := []) dX10_scan_7 lX10_128 okX10_byteAt vX10_byteAt s158 (by decide) rfl rfl rfl (Nat.le_of_ble_eq_true rfl) ⟨Nat.le_of_ble_eq_true rfl, Nat.le_of_ble_eq_true rfl⟩ CR.f (c_X10_byteAt hG hB (by omega)) (fun vq1 gq1 eq1 => ?_)
    rw [eq1.2, eq1.1]
    refine J_bipush (x := nI 32) dX10_scan_10 (by decide) ?_
    refine J_icmp_eq dX10_scan_12 (fun db => ?_) (fun db => ?_)
    · exact absurd (decide_eq_true (Or.inl db)) hnb
    · refine J_aload_n dX10_scan_15 rfl ?_
      refine J_iload_n dX10_scan_16 rfl ?_
      refine J_cVI (ci := 10) (c := 158) (as := [pI (nI (rn cBl T n p))]) (st := []) dX10_scan_17 lX10_128 okX10_byteAt vX10_byteAt s158 (by decide) rfl rfl rfl (Nat.le_of_ble_eq_true rfl) ⟨Nat.le_of_ble_eq_true rfl, Nat.le_of_ble_eq_true rfl⟩ CR.f (c_X10_byteAt hG hB (by omega)) (fun vq3 gq3 eq3 => ?_)
      rw [eq3.2, eq3.1]
      refine J_bipush (x := nI 10) dX10_scan_20 (by decide) ?_
      refine J_icmp_ne dX10_scan_22 (fun c4 => ?_) (fun c4 => ?_)
      · generalize hsd : rn cBl T n p = s at *
        refine J_aload_n dX10_scan_31 rfl ?_
        refine J_iload_n dX10_scan_32 rfl ?_
        refine J_putI dX10_scan_33 fX10_135 s158 rfl (vp_nar_int _) rfl (fun _ _ => rfl) ?_
        refine J_aload_n dX10_scan_36 rfl ?_
        refine J_iload_n dX10_scan_37 rfl ?_
        refine J_cVI (ci := 10) (c := 158) (as := [pI (nI s)]) (st := []) dX10_scan_38 lX10_128 okX10_byteAt vX10_byteAt s158 (by decide) rfl rfl rfl (Nat.le_of_ble_eq_true rfl) ⟨Nat.le_of_ble_eq_true rfl, Nat.le_of_ble_eq_true rfl⟩ CR.f (c_X10_byteAt hG hB (by omega)) (fun vq5 gq5 eq5 => ?_)
        rw [eq5.2, eq5.1]
        refine J_istore_n (L' := [some (pR (some 158)), some (pI (nI s)), some (pI (byM T n s)), none]) dX10_scan_41 (by decide) rfl ?_
        refine J_iload_n dX10_scan_42 rfl ?_
        refine J_iconstN (n := 1) dX10_scan_43 ?_
        refine J_iaddN dX10_scan_44 ?_
        refine J_istore_n (L' := [some (pR (some 158)), some (pI (nI s)), some (pI (byM T n s)), some (pI (nI (s + 1)))]) dX10_scan_45 (by decide) rfl ?_
        refine J_aload_n dX10_scan_46 rfl ?_
        refine J_iconst (x := -1) dX10_scan_47 (by decide) ?_
        refine J_putI dX10_scan_48 fX10_138 s158 rfl (vp_nar_int _) rfl (fun _ _ => rfl) ?_
        refine J_iload_n dX10_scan_51 rfl ?_
        refine J_iconst (x := -1) dX10_scan_52 (by decide) ?_
        refine J_icmp_ne dX10_scan_53 (fun de => ?_) (fun de => ?_)
        · have hsn : s < n := Classical.byContradiction (fun z => de ((byM_c hB.2.2.2).2.2.2.2.1.mpr z))
          refine J_iload_n dX10_scan_66 rfl ?_
          refine J_cSI (as := [pI (byM T n s)]) (st := []) dX10_scan_67 lX10_144 okX10_isSmall sX10_isSmall rfl rfl (Nat.le_of_ble_eq_true rfl) ⟨Nat.le_of_ble_eq_true rfl, Nat.le_of_ble_eq_true rfl⟩ CR.f (c_X10_isSmall) (fun vq7 gq7 eq7 => ?_)
          rw [eq7.2, eq7.1]
          refine J_if_eqB dX10_scan_70 (fun dl => ?_) (fun dl => ?_)
          · have hnl : ¬ cLe (T s) = true := fun z => dl ((byM_c hB.2.2.2).1.mpr ⟨hsn, z⟩)
            refine J_iload_n dX10_scan_170 rfl ?_
            refine J_cSI (as := [pI (byM T n s)]) (st := []) dX10_scan_171 lX10_160 okX10_isDigit sX10_isDigit rfl rfl (Nat.le_of_ble_eq_true rfl) ⟨Nat.le_of_ble_eq_true rfl, Nat.le_of_ble_eq_true rfl⟩ CR.f (c_X10_isDigit) (fun vq9 gq9 eq9 => ?_)
            rw [eq9.2, eq9.1]
            refine J_if_eqB dX10_scan_174 (fun dd => ?_) (fun dd => ?_)
            · have hnd : ¬ cDi (T s) = true := fun z => dd ((byM_c hB.2.2.2).2.1.mpr ⟨hsn, z⟩)
              refine J_aload_n dX10_scan_255 rfl ?_
              refine J_iload_n dX10_scan_256 rfl ?_
              refine J_bipush (x := nI 59) dX10_scan_257 (by decide) ?_
              refine J_icmp_ne dX10_scan_259 (fun ds => ?_) (fun ds => ?_)
              · refine J_iconstN (n := 0) dX10_scan_266 ?_
                refine J_putI dX10_scan_267 fX10_141 s158 rfl (vp_nar_int _) rfl (fun _ _ => rfl) ?_
                refine J_aload_n dX10_scan_270 rfl ?_
                refine J_iload_n dX10_scan_271 rfl ?_
                refine J_putI dX10_scan_272 fX10_132 s158 rfl (vp_nar_int _) rfl (fun _ _ => rfl) ?_
                exact J_retV dX10_scan_275 rfl ⟨((((Ms.rf).tr (Ms.s (by decide))).tr (Ms.s (by decide))).tr (Ms.s (by decide))).tr (Ms.s (by decide)), Mk.mk (K := 1) ((tkK_s hsn hnl hnd).trans (if_neg (fun z => ds ((byM_c (n := n) (j := s) hB.2.2.2).2.2.2.1.mpr ⟨hsn, z⟩)))) (tk_semi hsn hnl hnd).1 ((rI_k (by decide)).trans (rI_s)) ((rI_k (by decide)).trans ((rI_k (by decide)).trans (rI_s))) ((rI_k (by decide)).trans ((rI_k (by decide)).trans ((rI_k (by decide)).trans (rI_s)))) (rI_s) (fun z => absurd z (by decide)) (fun z => absurd z (by decide))⟩
              · refine J_iconstN (n := 3) dX10_scan_262 ?_
                refine J_goto dX10_scan_263 ?_
                refine J_putI dX10_scan_267 fX10_141 s158 rfl (vp_nar_int _) rfl (fun _ _ => rfl) ?_
                refine J_aload_n dX10_scan_270 rfl ?_
                refine J_iload_n dX10_scan_271 rfl ?_
                refine J_putI dX10_scan_272 fX10_132 s158 rfl (vp_nar_int _) rfl (fun _ _ => rfl) ?_
                exact J_retV dX10_scan_275 rfl ⟨((((Ms.rf).tr (Ms.s (by decide))).tr (Ms.s (by decide))).tr (Ms.s (by decide))).tr (Ms.s (by decide)), Mk.mk (K := 4) ((tkK_s hsn hnl hnd).trans (if_pos ((byM_c (n := n) (j := s) hB.2.2.2).2.2.2.1.mp ds).2)) (tk_semi hsn hnl hnd).1 ((rI_k (by decide)).trans (rI_s)) ((rI_k (by decide)).trans ((rI_k (by decide)).trans (rI_s))) ((rI_k (by decide)).trans ((rI_k (by decide)).trans ((rI_k (by decide)).trans (rI_s)))) (rI_s) (fun z => absurd z (by decide)) (fun z => absurd z (by decide))⟩
            · have hsd2 := ((byM_c (n := n) (j := s) hB.2.2.2).2.1.mp dd).2
              have hcb0 := cDi_b hsd2
              have hby0 := ((byM_c hB.2.2.2).2.2.2.2.2 hsn (Or.inr hsd2)).trans hcb0.2.2
              have hgl := rn_gt (c := cDi) hsn hsd2
              have hll := rn_le (c := cDi) (T := T) hle
              refine J_aload_n dX10_scan_177 rfl ?_
              refine J_iload_n dX10_scan_178 rfl ?_
              refine J_bipush (x := nI 48) dX10_scan_179 (by decide) ?_
              refine J_isub dX10_scan_181 ?_
              refine J_cvI (y := nI (nvN T s 1)) (by show _ = nI (0 * 10 + (cl (T s) - 48)); rw [hby0, pk_sub (by omega)]; congr 1; omega) ?_
              refine J_putI dX10_scan_182 fX10_163 s158 rfl (vp_nar_int _) rfl (fun _ _ => rfl) ?_
              refine J_L (L' := [some (pR (some 158)), some (pI (nI s)), some (pI (byM T n s)), some (pI (nI (s + 1 + 0)))]) rfl ?_
              refine J_forI (α := Unit) (L := fun i2 aa2 => [some (pR (some 158)), some (pI (nI s)), some (pI (byM T n s)), some (pI (nI (s + 1 + i2)))]) (fun i2 aa2 h2 => Ms h h2 ∧ h2.1 158 5 = nI s ∧ h2.1 158 4 = -1 ∧ h2.1 158 7 = nI (nvN T s (min (1 + i2) 3))) (e := rn cDi T n s - (s + 1)) (fun aa2 h2 hI2 => ?_) (fun i2 aa2 h2 hi2 hI2 ih2 => ?_) 0 (()) _ (by omega) (⟨((Ms.s (by decide)).tr (Ms.s (by decide))).tr (Ms.s (by decide)), (rI_k (by decide)).trans ((rI_k (by decide)).trans rI_s), (rI_k (by decide)).trans rI_s, rI_s⟩)
              · show J _ _ _ _ _ [some (pR (some 158)), some (pI (nI s)), some (pI (byM T n s)), some (pI (nI (s + 1 + (rn cDi T n s - (s + 1)))))] _ _ h2
                obtain ⟨m1, m5, m4, mw⟩ := hI2
                have hG := m1.g hG0
                have hB := hB0.ms m1
                have hno := mt (byM_c (n := n) (j := rn cDi T n s) hB.2.2.2).2.1.mp (rn_out (c := cDi) (T := T) (n := n) (p := s))
                refine J_L (L' := [some (pR (some 158)), some (pI (nI s)), some (pI (byM T n s)), some (pI (nI (rn cDi T n s)))]) (by rw [show s + 1 + (rn cDi T n s - (s + 1)) = rn cDi T n s by omega]) ?_
                refine J_aload_n dX10_scan_185 rfl ?_
                refine J_iload_n dX10_scan_186 rfl ?_
                refine J_cVI (ci := 10) (c := 158) (as := [pI (nI (rn cDi T n s))]) (st := []) dX10_scan_187 lX10_128 okX10_byteAt vX10_byteAt s158 (by decide) rfl rfl rfl (Nat.le_of_ble_eq_true rfl) ⟨Nat.le_of_ble_eq_true rfl, Nat.le_of_ble_eq_true rfl⟩ CR.f (c_X10_byteAt hG hB (by omega)) (fun vq12 gq12 eq12 => ?_)
                rw [eq12.2, eq12.1]
                refine J_cSI (as := [pI (byM T n (rn cDi T n s))]) (st := []) dX10_scan_190 lX10_160 okX10_isDigit sX10_isDigit rfl rfl (Nat.le_of_ble_eq_true rfl) ⟨Nat.le_of_ble_eq_true rfl, Nat.le_of_ble_eq_true rfl⟩ CR.f (c_X10_isDigit) (fun vq13 gq13 eq13 => ?_)
                rw [eq13.2, eq13.1]
                refine J_if_eqB dX10_scan_193 (fun c14 => ?_) (fun c14 => ?_)
                · refine J_aload_n dX10_scan_236 rfl ?_
                  refine J_iload_n dX10_scan_237 rfl ?_
                  refine J_iload_n dX10_scan_238 rfl ?_
                  refine J_isubN dX10_scan_239 (by omega) ?_
                  refine J_iconstN (n := 3) dX10_scan_240 ?_
                  refine J_icmp_leN dX10_scan_241 (by omega) (by omega) (fun d8 => ?_) (fun d8 => ?_)
                  · refine J_iconstN (n := 2) dX10_scan_248 ?_
                    refine J_putI dX10_scan_249 fX10_141 s158 rfl (vp_nar_int _) rfl (fun _ _ => rfl) ?_
                    refine J_goto dX10_scan_252 ?_
                    refine J_aload_n dX10_scan_270 rfl ?_
                    refine J_iload_n dX10_scan_271 rfl ?_
                    refine J_putI dX10_scan_272 fX10_132 s158 rfl (vp_nar_int _) rfl (fun _ _ => rfl) ?_
                    exact J_retV dX10_scan_275 rfl ⟨((m1).tr (Ms.s (by decide))).tr (Ms.s (by decide)), Mk.mk (K := 3) ((tkK_d hsn hnl hsd2).trans (if_pos d8)) (tk_num hsn hnl hsd2).1 ((rI_k (by decide)).trans (rI_s)) ((rI_k (by decide)).trans ((rI_k (by decide)).trans (m4))) ((rI_k (by decide)).trans ((rI_k (by decide)).trans (m5))) (rI_s) (fun z => absurd z (by decide)) (fun _ => ((rI_k (by decide)).trans ((rI_k (by decide)).trans ((mw.trans (by rw [(tk_num hsn hnl hsd2).2.2 ((tkK_d hsn hnl hsd2).trans (if_pos d8)), show min (1 + (rn cDi T n s - (s + 1))) 3 = rn cDi T n s - s by omega]))))))⟩
                  · refine J_iconstN (n := 0) dX10_scan_244 ?_
                    refine J_goto dX10_scan_245 ?_
                    refine J_putI dX10_scan_249 fX10_141 s158 rfl (vp_nar_int _) rfl (fun _ _ => rfl) ?_
                    refine J_goto dX10_scan_252 ?_
                    refine J_aload_n dX10_scan_270 rfl ?_
                    refine J_iload_n dX10_scan_271 rfl ?_
                    refine J_putI dX10_scan_272 fX10_132 s158 rfl (vp_nar_int _) rfl (fun _ _ => rfl) ?_
                    exact J_retV dX10_scan_275 rfl ⟨((m1).tr (Ms.s (by decide))).tr (Ms.s (by decide)), Mk.mk (K := 1) ((tkK_d hsn hnl hsd2).trans (if_neg d8)) (tk_num hsn hnl hsd2).1 ((rI_k (by decide)).trans (rI_s)) ((rI_k (by decide)).trans ((rI_k (by decide)).trans (m4))) ((rI_k (by decide)).trans ((rI_k (by decide)).trans (m5))) (rI_s) (fun z => absurd z (by decide)) (fun z => absurd z (by decide))⟩
                · exact absurd c14 hno
              · show J _ _ _ _ _ [some (pR (some 158)), some (pI (nI s)), some (pI (byM T n s)), some (pI (nI (s + 1 + i2)))] _ _ h2
                obtain ⟨m1, m5, m4, mw⟩ := hI2
                have hG := m1.g hG0
                have hB := hB0.ms m1
                have hin := rn_in (c := cDi) (T := T) (n := n) (p := s) (j := s + 1 + i2) (by omega) (by omega)
                have hcb := cDi_b hin.2
                have hby := ((byM_c hB.2.2.2).2.2.2.2.2 hin.1 (Or.inr hin.2)).trans hcb.2.2
                have hyes := (byM_c (n := n) (j := s + 1 + i2) hB.2.2.2).2.1.mpr hin
                refine J_aload_n dX10_scan_185 rfl ?_
                refine J_iload_n dX10_scan_186 rfl ?_
                refine J_cVI (ci := 10) (c := 158) (as := [pI (nI (s + 1 + i2))]) (st := []) dX10_scan_187 lX10_128 okX10_byteAt vX10_byteAt s158 (by decide) rfl rfl rfl (Nat.le_of_ble_eq_true rfl) ⟨Nat.le_of_ble_eq_true rfl, Nat.le_of_ble_eq_true rfl⟩ CR.f (c_X10_byteAt hG hB (by omega)) (fun vq16 gq16 eq16 => ?_)
                rw [eq16.2, eq16.1]
                refine J_cSI (as := [pI (byM T n (s + 1 + i2))]) (st := []) dX10_scan_190 lX10_160 okX10_isDigit sX10_isDigit rfl rfl (Nat.le_of_ble_eq_true rfl) ⟨Nat.le_of_ble_eq_true rfl, Nat.le_of_ble_eq_true rfl⟩ CR.f (c_X10_isDigit) (fun vq17 gq17 eq17 => ?_)
                rw [eq17.2, eq17.1]
                refine J_if_eqB dX10_scan_193 (fun c18 => ?_) (fun c18 => ?_)
                · exact absurd hyes c18
                · refine J_aload_n dX10_scan_196 rfl ?_
                  refine J_iload_n dX10_scan_197 rfl ?_
                  refine J_iload_n dX10_scan_198 rfl ?_
                  refine J_isubN dX10_scan_199 (by omega) ?_
                  refine J_iconstN (n := 3) dX10_scan_200 ?_
                  refine J_icmp_geN dX10_scan_201 (by omega) (by omega) (fun c19 => ?_) (fun c19 => ?_)
                  · refine J_aload_n dX10_scan_223 rfl ?_
                    refine J_getI dX10_scan_224 fX10_163 s158 (fun _ => rfl) ?_
                    refine J_cvI (mw) ?_
                    refine J_putI dX10_scan_227 fX10_163 s158 rfl (vp_nar_int _) rfl (fun _ _ => rfl) ?_
                    refine J_iincN (n := 1) (L' := [some (pR (some 158)), some (pI (nI s)), some (pI (byM T n s)), some (pI (nI (s + 1 + i2 + 1)))]) dX10_scan_230 rfl (by decide) rfl ?_
                    refine J_goto dX10_scan_233 ?_
                    exact ih2 () _ ⟨m1.tr (Ms.s (by decide)), (rI_k (by decide)).trans m5, (rI_k (by decide)).trans m4, rI_s.trans (by rw [show min (1 + (i2 + 1)) 3 = min (1 + i2) 3 by omega])⟩
                  · refine J_bipush (x := nI 10) dX10_scan_204 (by decide) ?_
                    refine J_aload_n dX10_scan_206 rfl ?_
                    refine J_getI dX10_scan_207 fX10_163 s158 (fun _ => rfl) ?_
                    refine J_cvI (mw) ?_
                    refine J_imulN dX10_scan_210 ?_
                    refine J_aload_n dX10_scan_211 rfl ?_
                    refine J_iload_n dX10_scan_212 rfl ?_
                    refine J_cVI (ci := 10) (c := 158) (as := [pI (nI (s + 1 + i2))]) (st := [pI (nI (10 * nvN T s (min (1 + i2) 3))), pR (some 158)]) dX10_scan_213 lX10_128 okX10_byteAt vX10_byteAt s158 (by decide) rfl rfl rfl (Nat.le_of_ble_eq_true rfl) ⟨Nat.le_of_ble_eq_true rfl, Nat.le_of_ble_eq_true rfl⟩ CR.f (c_X10_byteAt hG hB (by omega)) (fun vq20 gq20 eq20 => ?_)
                    rw [eq20.2, eq20.1]
                    refine J_cvI (y := nI (cl (T (s + 1 + i2)))) hby ?_
                    refine J_iaddN dX10_scan_216 ?_
                    refine J_bipush (x := nI 48) dX10_scan_217 (by decide) ?_
                    refine J_isubN dX10_scan_219 (by omega) ?_
                    refine J_goto dX10_scan_220 ?_
                    refine J_putI dX10_scan_227 fX10_163 s158 rfl (vp_nar_int _) rfl (fun _ _ => rfl) ?_
                    refine J_iincN (n := 1) (L' := [some (pR (some 158)), some (pI (nI s)), some (pI (byM T n s)), some (pI (nI (s + 1 + i2 + 1)))]) dX10_scan_230 rfl (by decide) rfl ?_
                    refine J_goto dX10_scan_233 ?_
                    exact ih2 () _ ⟨m1.tr (Ms.s (by decide)), (rI_k (by decide)).trans m5, (rI_k (by decide)).trans m4, rI_s.trans (by rw [show min (1 + (i2 + 1)) 3 = 1 + i2 + 1 by omega, show min (1 + i2) 3 = 1 + i2 by omega]; show _ = nI (nvN T s (1 + i2) * 10 + (cl (T (s + (1 + i2))) - 48)); rw [show s + (1 + i2) = s + 1 + i2 by omega]; congr 1; omega)⟩
          · refine J_aload_n dX10_scan_73 rfl ?_
            refine J_lconst (x := 0) dX10_scan_74 rfl ?_
            refine J_putL dX10_scan_75 fX10_148 s158 rfl rfl ?_
            refine J_iload_n dX10_scan_78 rfl ?_
            refine J_istore_n (L' := [some (pR (some 158)), some (pI (nI s)), some (pI (byM T n s)), some (pI (nI s))]) dX10_scan_79 (by decide) rfl ?_
            have hsl := (byM_c (n := n) (j := s) hB.2.2.2).1.mp dl
            have hgl := rn_ge (c := cLe) (T := T) (n := n) (p := s)
            have hll := rn_le (c := cLe) (T := T) hle
            refine J_L (L' := [some (pR (some 158)), some (pI (nI s)), some (pI (byM T n s)), some (pI (nI (s + 0)))]) rfl ?_
            refine J_forI (α := Unit) (L := fun i2 aa2 => [some (pR (some 158)), some (pI (nI s)), some (pI (byM T n s)), some (pI (nI (s + i2)))]) (fun i2 aa2 h2 => Ms h h2 ∧ h2.1 158 5 = nI s ∧ h2.1 158 4 = -1 ∧ h2.2.1 158 10 = lN (wvN T s (min i2 8))) (e := rn cLe T n s - s) (fun aa2 h2 hI2 => ?_) (fun i2 aa2 h2 hi2 hI2 ih2 => ?_) 0 (()) _ (by omega) (⟨((Ms.s (by decide)).tr (Ms.s (by decide))).tr Ms.sl, xIL.trans ((rI_k (by decide)).trans rI_s), xIL.trans rI_s, rL_s⟩)
            · show J _ _ _ _ _ [some (pR (some 158)), some (pI (nI s)), some (pI (byM T n s)), some (pI (nI (s + (rn cLe T n s - s))))] _ _ h2
              obtain ⟨m1, m5, m4, mw⟩ := hI2
              have hG := m1.g hG0
              have hB := hB0.ms m1
              have hno := mt (byM_c (n := n) (j := rn cLe T n s) hB.2.2.2).1.mp (rn_out (c := cLe) (T := T) (n := n) (p := s))
              refine J_L (L' := [some (pR (some 158)), some (pI (nI s)), some (pI (byM T n s)), some (pI (nI (rn cLe T n s)))]) (by rw [show s + (rn cLe T n s - s) = rn cLe T n s by omega]) ?_
              refine J_aload_n dX10_scan_80 rfl ?_
              refine J_iload_n dX10_scan_81 rfl ?_
              refine J_cVI (ci := 10) (c := 158) (as := [pI (nI (rn cLe T n s))]) (st := []) dX10_scan_82 lX10_128 okX10_byteAt vX10_byteAt s158 (by decide) rfl rfl rfl (Nat.le_of_ble_eq_true rfl) ⟨Nat.le_of_ble_eq_true rfl, Nat.le_of_ble_eq_true rfl⟩ CR.f (c_X10_byteAt hG hB (by omega)) (fun vq21 gq21 eq21 => ?_)
              rw [eq21.2, eq21.1]
              refine J_cSI (as := [pI (byM T n (rn cLe T n s))]) (st := []) dX10_scan_85 lX10_144 okX10_isSmall sX10_isSmall rfl rfl (Nat.le_of_ble_eq_true rfl) ⟨Nat.le_of_ble_eq_true rfl, Nat.le_of_ble_eq_true rfl⟩ CR.f (c_X10_isSmall) (fun vq22 gq22 eq22 => ?_)
              rw [eq22.2, eq22.1]
              refine J_if_eqB dX10_scan_88 (fun c23 => ?_) (fun c23 => ?_)
              · refine J_aload_n dX10_scan_130 rfl ?_
                refine J_iload_n dX10_scan_131 rfl ?_
                refine J_iload_n dX10_scan_132 rfl ?_
                refine J_isubN dX10_scan_133 (by omega) ?_
                refine J_bipush (x := nI 8) dX10_scan_134 (by decide) ?_
                refine J_icmp_leN dX10_scan_136 (by omega) (by omega) (fun d8 => ?_) (fun d8 => ?_)
                · have hK : tkK T n s = 2 := (tkK_w hsl.1 hsl.2).trans (if_pos d8)
                  refine J_iconstN (n := 1) dX10_scan_143 ?_
                  refine J_putI dX10_scan_144 fX10_141 s158 rfl (vp_nar_int _) rfl (fun _ _ => rfl) ?_
                  refine J_aload_n dX10_scan_147 rfl ?_
                  refine J_getI dX10_scan_148 fX10_141 s158 (fun _ => rfl) ?_
                  refine J_cvI (rI_s) ?_
                  refine J_iconstN (n := 1) dX10_scan_151 ?_
                  refine J_icmp_neN dX10_scan_152 (by decide) (by decide) (fun c0 => absurd c0 (by decide)) (fun c0 => ?_)
                  refine J_aload_n dX10_scan_155 rfl ?_
                  refine J_aload_n dX10_scan_156 rfl ?_
                  refine J_iload_n dX10_scan_157 rfl ?_
                  refine J_iload_n dX10_scan_158 rfl ?_
                  refine J_iload_n dX10_scan_159 rfl ?_
                  refine J_isubN dX10_scan_160 (by omega) ?_
                  refine J_cVI (ci := 10) (c := 158) (as := [pI (nI s), pI (nI (rn cLe T n s - s))]) (st := [pR (some 158)]) dX10_scan_161 lX10_156 okX10_keyAt vX10_keyAt s158 (by decide) rfl rfl rfl (Nat.le_of_ble_eq_true rfl) ⟨Nat.le_of_ble_eq_true rfl, Nat.le_of_ble_eq_true rfl⟩ CR.f ((by have z := c_X10_keyAt (h := sI h2 158 3 (nI 1)) (s := s) (T := T) (n := n) hG (hB.ms (Ms.s (k := 3) (x := nI 1) (by decide))) hK; rw [(tk_word hsl.1 hsl.2).1] at z; exact z)) (fun vq25 gq25 eq25 => ?_)
                  rw [eq25.2, eq25.1]
                  refine J_putI dX10_scan_164 fX10_138 s158 rfl (vp_nar_int _) rfl (fun _ _ => rfl) ?_
                  refine J_goto dX10_scan_167 ?_
                  refine J_aload_n dX10_scan_270 rfl ?_
                  refine J_iload_n dX10_scan_271 rfl ?_
                  refine J_putI dX10_scan_272 fX10_132 s158 rfl (vp_nar_int _) rfl (fun _ _ => rfl) ?_
                  exact J_retV dX10_scan_275 rfl ⟨(((m1).tr (Ms.s (by decide))).tr (Ms.s (by decide))).tr (Ms.s (by decide)), Mk.mk (K := 2) ((tkK_w hsl.1 hsl.2).trans (if_pos d8)) (tk_word hsl.1 hsl.2).1 ((rI_k (by decide)).trans ((rI_k (by decide)).trans (rI_s))) ((rI_k (by decide)).trans (rI_s)) ((rI_k (by decide)).trans ((rI_k (by decide)).trans ((rI_k (by decide)).trans (m5)))) (rI_s) (fun _ => mw.trans (by rw [tkV_w hK, (tk_word hsl.1 hsl.2).1, show min (rn cLe T n s - s) 8 = rn cLe T n s - s by omega])) (fun z => absurd z (by decide))⟩
                · refine J_iconstN (n := 0) dX10_scan_139 ?_
                  refine J_goto dX10_scan_140 ?_
                  refine J_putI dX10_scan_144 fX10_141 s158 rfl (vp_nar_int _) rfl (fun _ _ => rfl) ?_
                  refine J_aload_n dX10_scan_147 rfl ?_
                  refine J_getI dX10_scan_148 fX10_141 s158 (fun _ => rfl) ?_
                  refine J_cvI (rI_s) ?_
                  refine J_iconstN (n := 1) dX10_scan_151 ?_
                  refine J_icmp_neN dX10_scan_152 (by decide) (by decide) (fun c0 => ?_) (fun c0 => absurd c0 (by decide))
                  refine J_aload_n dX10_scan_270 rfl ?_
                  refine J_iload_n dX10_scan_271 rfl ?_
                  refine J_putI dX10_scan_272 fX10_132 s158 rfl (vp_nar_int _) rfl (fun _ _ => rfl) ?_
                  exact J_retV dX10_scan_275 rfl ⟨((m1).tr (Ms.s (by decide))).tr (Ms.s (by decide)), Mk.mk (K := 1) ((tkK_w hsl.1 hsl.2).trans (if_neg d8)) (tk_word hsl.1 hsl.2).1 ((rI_k (by decide)).trans (rI_s)) ((rI_k (by decide)).trans ((rI_k (by decide)).trans (m4))) ((rI_k (by decide)).trans ((rI_k (by decide)).trans (m5))) (rI_s) (fun z => absurd z (by decide)) (fun z => absurd z (by decide))⟩
              · exact absurd c23 hno
            · show J _ _ _ _ _ [some (pR (some 158)), some (pI (nI s)), some (pI (byM T n s)), some (pI (nI (s + i2)))] _ _ h2
              obtain ⟨m1, m5, m4, mw⟩ := hI2
              have hG := m1.g hG0
              have hB := hB0.ms m1
              have hin := rn_in (c := cLe) (T := T) (n := n) (p := s) (j := s + i2) (by omega) (by omega)
              have hcb := cLe_b hin.2
              have hby := ((byM_c hB.2.2.2).2.2.2.2.2 hin.1 (Or.inl hin.2)).trans hcb.2.2
              have hyes := (byM_c (n := n) (j := s + i2) hB.2.2.2).1.mpr hin
              refine J_aload_n dX10_scan_80 rfl ?_
              refine J_iload_n dX10_scan_81 rfl ?_
              refine J_cVI (ci := 10) (c := 158) (as := [pI (nI (s + i2))]) (st := []) dX10_scan_82 lX10_128 okX10_byteAt vX10_byteAt s158 (by decide) rfl rfl rfl (Nat.le_of_ble_eq_true rfl) ⟨Nat.le_of_ble_eq_true rfl, Nat.le_of_ble_eq_true rfl⟩ CR.f (c_X10_byteAt hG hB (by omega)) (fun vq26 gq26 eq26 => ?_)
              rw [eq26.2, eq26.1]
              refine J_cSI (as := [pI (byM T n (s + i2))]) (st := []) dX10_scan_85 lX10_144 okX10_isSmall sX10_isSmall rfl rfl (Nat.le_of_ble_eq_true rfl) ⟨Nat.le_of_ble_eq_true rfl, Nat.le_of_ble_eq_true rfl⟩ CR.f (c_X10_isSmall) (fun vq27 gq27 eq27 => ?_)
              rw [eq27.2, eq27.1]
              refine J_if_eqB dX10_scan_88 (fun c28 => ?_) (fun c28 => ?_)
              · exact absurd hyes c28
              · refine J_iload_n dX10_scan_91 rfl ?_
                refine J_iload_n dX10_scan_92 rfl ?_
                refine J_isubN dX10_scan_93 (by omega) ?_
                refine J_bipush (x := nI 8) dX10_scan_94 (by decide) ?_
                refine J_icmp_geN dX10_scan_96 (by omega) (by omega) (fun c29 => ?_) (fun c29 => ?_)
                · refine J_iincN (n := 1) (L' := [some (pR (some 158)), some (pI (nI s)), some (pI (byM T n s)), some (pI (nI (s + i2 + 1)))]) dX10_scan_124 rfl (by decide) rfl ?_
                  refine J_goto dX10_scan_127 ?_
                  exact ih2 () _ ⟨m1, m5, m4, by rw [show min (i2 + 1) 8 = min i2 8 by omega]; exact mw⟩
                · refine J_aload_n dX10_scan_99 rfl ?_
                  refine J_ldc2 dX10_scan_100 kX10_152 ?_
                  refine J_cvL (y := lN 32) (by decide) ?_
                  refine J_aload_n dX10_scan_103 rfl ?_
                  refine J_getL dX10_scan_104 fX10_148 s158 (fun _ => rfl) ?_
                  refine J_cvL (mw) ?_
                  refine J_lmul dX10_scan_107 ?_
                  refine J_cvL (lN_mul _ _) ?_
                  refine J_aload_n dX10_scan_108 rfl ?_
                  refine J_iload_n dX10_scan_109 rfl ?_
                  refine J_cVI (ci := 10) (c := 158) (as := [pI (nI (s + i2))]) (st := [pL (lN (32 * wvN T s (min i2 8))), pR (some 158)]) dX10_scan_110 lX10_128 okX10_byteAt vX10_byteAt s158 (by decide) rfl rfl rfl (Nat.le_of_ble_eq_true rfl) ⟨Nat.le_of_ble_eq_true rfl, Nat.le_of_ble_eq_true rfl⟩ CR.f (c_X10_byteAt hG hB (by omega)) (fun vq30 gq30 eq30 => ?_)
                  rw [eq30.2, eq30.1]
                  refine J_cvI (y := nI (cl (T (s + i2)))) hby ?_
                  refine J_i2lN dX10_scan_113 (by omega) ?_
                  refine J_ladd dX10_scan_114 ?_
                  refine J_cvL (lN_add _ _) ?_
                  refine J_ldc2 dX10_scan_115 kX10_154 ?_
                  refine J_cvL (y := lN 97) (by decide) ?_
                  refine J_lsub dX10_scan_118 ?_
                  refine J_cvL (lN_sub (by omega)) ?_
                  refine J_lconst (x := 1) dX10_scan_119 rfl ?_
                  refine J_ladd dX10_scan_120 ?_
                  refine J_putL dX10_scan_121 fX10_148 s158 rfl rfl ?_
                  refine J_iincN (n := 1) (L' := [some (pR (some 158)), some (pI (nI s)), some (pI (byM T n s)), some (pI (nI (s + i2 + 1)))]) dX10_scan_124 rfl (by decide) rfl ?_
                  refine J_goto dX10_scan_127 ?_
                  exact ih2 () _ ⟨m1.tr Ms.sl, m5, m4, rL_s.trans (by rw [lN1_add, show min (i2 + 1) 8 = i2 + 1 by omega, show min i2 8 = i2 by omega]; show _ = lN (wvN T s i2 * 32 + (cl (T (s + i2)) - 96)); congr 1; omega)⟩
        · have hsn : ¬ s < n := (byM_c hB.2.2.2).2.2.2.2.1.mp de
          refine J_aload_n dX10_scan_56 rfl ?_
          refine J_iconstN (n := 4) dX10_scan_57 ?_
          refine J_putI dX10_scan_58 fX10_141 s158 rfl (vp_nar_int _) rfl (fun _ _ => rfl) ?_
          refine J_iload_n dX10_scan_61 rfl ?_
          refine J_istore_n (L' := [some (pR (some 158)), some (pI (nI s)), some (pI (byM T n s)), some (pI (nI s))]) dX10_scan_62 (by decide) rfl ?_
          refine J_goto dX10_scan_63 ?_
          refine J_aload_n dX10_scan_270 rfl ?_
          refine J_iload_n dX10_scan_271 rfl ?_
          refine J_putI dX10_scan_272 fX10_132 s158 rfl (vp_nar_int _) rfl (fun _ _ => rfl) ?_
          exact J_retV dX10_scan_275 rfl ⟨((((Ms.rf).tr (Ms.s (by decide))).tr (Ms.s (by decide))).tr (Ms.s (by decide))).tr (Ms.s (by decide)), Mk.mk (K := 0) (tkK_0.mpr (by omega)) (tk_end (by omega)).1 ((rI_k (by decide)).trans (rI_s)) ((rI_k (by decide)).trans ((rI_k (by decide)).trans (rI_s))) ((rI_k (by decide)).trans ((rI_k (by decide)).trans ((rI_k (by decide)).trans (rI_s)))) (rI_s) (fun z => absurd z (by decide)) (fun z => absurd z (by decide))⟩
      · exact absurd (decide_eq_true (Or.inr c4)) hnb
  · show J _ _ _ _ _ [some (pR (some 158)), some (pI (nI (p + i1))), none, none] _ _ h1
    obtain rfl := hI1
    have hbl := (byM_c (n := n) (j := p + i1) hB.2.2.2).2.2.1.mpr (rn_in (c := cBl) (T := T) (n := n) (p := p) (by omega) (by omega))
    refine J_aload_n dX10_scan_5 rfl ?_
    refine J_iload_n dX10_scan_6 rfl ?_
    refine J_cVI (ci := 10) (c := 158) (as := [pI (nI (p + i1))]) (st := []) dX10_scan_7 lX10_128 okX10_byteAt vX10_byteAt s158 (by decide) rfl rfl rfl (Nat.le_of_ble_eq_true rfl) ⟨Nat.le_of_ble_eq_true rfl, Nat.le_of_ble_eq_true rfl⟩ CR.f (c_X10_byteAt hG hB (by omega)) (fun vq31 gq31 eq31 => ?_)
    rw [eq31.2, eq31.1]
    refine J_bipush (x := nI 32) dX10_scan_10 (by decide) ?_
    refine J_icmp_eq dX10_scan_12 (fun db => ?_) (fun db => ?_)
    · refine J_iincN (n := 1) (L' := [some (pR (some 158)), some (pI (nI (p + i1 + 1))), none, none]) dX10_scan_25 rfl (by decide) rfl ?_
      refine J_goto dX10_scan_28 ?_
      exact ih1 () _ rfl
    · refine J_aload_n dX10_scan_15 rfl ?_
      refine J_iload_n dX10_scan_16 rfl ?_
      refine J_cVI (ci := 10) (c := 158) (as := [pI (nI (p + i1))]) (st := []) dX10_scan_17 lX10_128 okX10_byteAt vX10_byteAt s158 (by decide) rfl rfl rfl (Nat.le_of_ble_eq_true rfl) ⟨Nat.le_of_ble_eq_true rfl, Nat.le_of_ble_eq_true rfl⟩ CR.f (c_X10_byteAt hG hB (by omega)) (fun vq33 gq33 eq33 => ?_)
      rw [eq33.2, eq33.1]
      refine J_bipush (x := nI 10) dX10_scan_20 (by decide) ?_
      refine J_icmp_ne dX10_scan_22 (fun c34 => ?_) (fun c34 => ?_)
      · exact ((of_decide_eq_true hbl).elim db c34).elim
      · refine J_iincN (n := 1) (L' := [some (pR (some 158)), some (pI (nI (p + i1 + 1))), none, none]) dX10_scan_25 rfl (by decide) rfl ?_
        refine J_goto dX10_scan_28 ?_
        exact ih1 () _ rfl
