/-! ===== clause words of the model ===== -/
/-- words ended before i in the model's text of words, where the next begins -/
def wkA : Nat → Nat
  | 0 => 0
  | i + 1 => if chS 13 i = nI 32 then wkA i + 1 else wkA i
def wsA : Nat → Nat
  | 0 => 0
  | i + 1 => if chS 13 i = nI 32 then i + 1 else wsA i
theorem wk_p {i : Nat} (h : chS 13 i = nI 32) : wkA (i + 1) = wkA i + 1 ∧ wsA (i + 1) = i + 1 := ⟨if_pos h, if_pos h⟩
theorem wk_n {i : Nat} (h : ¬ chS 13 i = nI 32) : wkA (i + 1) = wkA i ∧ wsA (i + 1) = wsA i := ⟨if_neg h, if_neg h⟩
theorem wsA_le : ∀ i, i < 46 → wsA i ≤ i ∧ wkA i ≤ 7 := by decide +kernel
theorem wk_f : ∀ i, i < 45 → chS 13 i = nI 32 → i - wsA i = lenJS.getD (wkA i) 0 ∧ wkA i < 7 := by decide +kernel
theorem wk_c : ∀ i, i < 45 → chS 13 i = nI 32 → ∀ j, j < 8 → j < lenJS.getD (wkA i) 0 → chS 13 (wsA i + j) = chS (wkA i) j := by decide +kernel
theorem wk_45 : wkA 45 = 7 := by decide +kernel
theorem len_8 : ∀ e, e < 7 → lenJS.getD e 0 < 8 := by decide
theorem c_X10_keyAt {h : PH} {T : Nat → Int32} {n s : Nat} (hG : GR h.2.2) (hB : Mt h T n) (hK : tkK T n s = 2) : CtI mX10_keyAt h [pR (some 158), pI (nI s), pI (nI (tkE T n s - s))] (fun v h' => v = hlp (kw (tkV T n s)) ∧ h' = h) := by
  have hn9 := hB.2.2.1
  have htl := tk_let hK
  have hge := tkE_ge (T := T) (n := n) (s := s)
  have hle := tkE_le (T := T) (Nat.le_of_lt htl.1)
  refine Ct.of (L := [some (pR (some 158)), some (pI (nI s)), some (pI (nI (tkE T n s - s))), none, none, none, none, none]) rfl rfl (Nat.le_of_ble_eq_true rfl) rfl ?_
  refine J_iconstN (n := 0) dX10_keyAt_0 ?_
  refine J_istore_n (L' := [some (pR (some 158)), some (pI (nI s)), some (pI (nI (tkE T n s - s))), some (pI (nI 0)), none, none, none, none]) dX10_keyAt_1 (by decide) rfl ?_
  refine J_iconstN (n := 0) dX10_keyAt_2 ?_
  refine J_istore (L' := [some (pR (some 158)), some (pI (nI s)), some (pI (nI (tkE T n s - s))), some (pI (nI 0)), some (pI (nI 0)), none, none, none]) dX10_keyAt_3 (by decide) rfl ?_
  refine J_iconstN (n := 0) dX10_keyAt_5 ?_
  refine J_istore (L' := [some (pR (some 158)), some (pI (nI s)), some (pI (nI (tkE T n s - s))), some (pI (nI 0)), some (pI (nI 0)), some (pI (nI 0)), none, none]) dX10_keyAt_6 (by decide) rfl ?_
  refine J_L (L' := [some (pR (some 158)), some (pI (nI s)), some (pI (nI (tkE T n s - s))), some (pI (nI (wkA 0))), some (pI (nI (wsA 0))), some (pI (nI 0)), none, none]) rfl ?_
  refine J_forI (α := Unit) (L := fun i1 aa1 => [some (pR (some 158)), some (pI (nI s)), some (pI (nI (tkE T n s - s))), some (pI (nI (wkA i1))), some (pI (nI (wsA i1))), some (pI (nI i1)), none, none]) (fun i1 aa1 h1 => h = h1 ∧ kwF (tkV T n s) (wkA i1) = 0) (e := 45) (fun aa1 h1 hI1 => ?_) (fun i1 aa1 h1 hi1 hI1 ih1 => ?_) 0 (()) _ (by omega) (⟨rfl, rfl⟩)
  · show J _ _ _ _ _ [some (pR (some 158)), some (pI (nI s)), some (pI (nI (tkE T n s - s))), some (pI (nI (wkA 45))), some (pI (nI (wsA 45))), some (pI (nI 45)), none, none] _ _ h1
    obtain ⟨rfl, hJ⟩ := hI1
    refine J_iload dX10_keyAt_8 rfl ?_
    refine J_ldcS 13 dX10_keyAt_10 (by decide) rfl ?_
    refine J_cXI (e0 := 13) (as := []) (st := [pI (nI 45)]) dX10_keyAt_12 lX10_118 okJ0_length_8abf5 vJ0_length_8abf5 (by decide) rfl rfl rfl (Nat.le_of_ble_eq_true rfl) ⟨Nat.le_of_ble_eq_true rfl, Nat.le_of_ble_eq_true rfl⟩ CR.f ((show CtI mJ0_length_8abf5 h [pX 13] (fun v h' => v = nI 45 ∧ h' = h) from c_J0_length (by decide))) (fun vq1 gq1 eq1 => ?_)
    rw [eq1.2, eq1.1]
    refine J_icmp_geN dX10_keyAt_15 (by decide) (by decide) (fun c0 => ?_) (fun c0 => absurd c0 (by decide))
    refine J_iconst (x := -1) dX10_keyAt_119 (by decide) ?_
    exact J_retI dX10_keyAt_120 rfl ⟨by rw [wk_45] at hJ; rw [kw, hJ]; rfl, rfl⟩
  · show J _ _ _ _ _ [some (pR (some 158)), some (pI (nI s)), some (pI (nI (tkE T n s - s))), some (pI (nI (wkA i1))), some (pI (nI (wsA i1))), some (pI (nI i1)), none, none] _ _ h1
    obtain ⟨rfl, hJ⟩ := hI1
    have hwl := wsA_le i1 (by omega)
    refine J_iload dX10_keyAt_8 rfl ?_
    refine J_ldcS 13 dX10_keyAt_10 (by decide) rfl ?_
    refine J_cXI (e0 := 13) (as := []) (st := [pI (nI i1)]) dX10_keyAt_12 lX10_118 okJ0_length_8abf5 vJ0_length_8abf5 (by decide) rfl rfl rfl (Nat.le_of_ble_eq_true rfl) ⟨Nat.le_of_ble_eq_true rfl, Nat.le_of_ble_eq_true rfl⟩ CR.f ((show CtI mJ0_length_8abf5 h [pX 13] (fun v h' => v = nI 45 ∧ h' = h) from c_J0_length (by decide))) (fun vq2 gq2 eq2 => ?_)
    rw [eq2.2, eq2.1]
    refine J_icmp_geN dX10_keyAt_15 (by omega) (by omega) (fun c3 => ?_) (fun c3 => ?_)
    · exact (show False by omega).elim
    · refine J_ldcS 13 dX10_keyAt_18 (by decide) rfl ?_
      refine J_iload dX10_keyAt_20 rfl ?_
      refine J_cXI (e0 := 13) (as := [pI (nI i1)]) (st := []) dX10_keyAt_22 lX10_124 okJ0_charAt_5068e vJ0_charAt_5068e (by decide) rfl rfl rfl (Nat.le_of_ble_eq_true rfl) ⟨Nat.le_of_ble_eq_true rfl, Nat.le_of_ble_eq_true rfl⟩ CR.f (c_J0_charAt (e0 := 13) (by decide) (show i1 < 45 by omega)) (fun vq4 gq4 eq4 => ?_)
      rw [eq4.2, eq4.1]
      refine J_bipush (x := nI 32) dX10_keyAt_25 (by decide) ?_
      refine J_icmp_eq dX10_keyAt_27 (fun dsp => ?_) (fun dsp => ?_)
      · have hwf := wk_f i1 hi1 dsp
        have hkw := kw_w (e := wkA i1) hwf.2 hK
        refine J_iload dX10_keyAt_33 rfl ?_
        refine J_iload dX10_keyAt_35 rfl ?_
        refine J_isubN dX10_keyAt_37 (by omega) ?_
        refine J_iload_n dX10_keyAt_38 rfl ?_
        refine J_icmp_neN dX10_keyAt_39 (by omega) (by omega) (fun dl => ?_) (fun dl => ?_)
        · refine J_iconstN (n := 0) dX10_keyAt_46 ?_
          refine J_istore (L' := [some (pR (some 158)), some (pI (nI s)), some (pI (nI (tkE T n s - s))), some (pI (nI (wkA i1))), some (pI (nI (wsA i1))), some (pI (nI i1)), some (pI (nI 0)), none]) dX10_keyAt_47 (by decide) rfl ?_
          refine J_iconstN (n := 0) dX10_keyAt_49 ?_
          refine J_istore (L' := [some (pR (some 158)), some (pI (nI s)), some (pI (nI (tkE T n s - s))), some (pI (nI (wkA i1))), some (pI (nI (wsA i1))), some (pI (nI i1)), some (pI (nI 0)), some (pI (nI 0))]) dX10_keyAt_50 (by decide) rfl ?_
          refine J_iload dX10_keyAt_52 rfl ?_
          refine J_iload_n dX10_keyAt_54 rfl ?_
          refine J_icmp_geN dX10_keyAt_55 (by omega) (by omega) (fun c7 => ?_) (fun c7 => ?_)
          · refine J_iload dX10_keyAt_97 rfl ?_
            refine J_if_eq dX10_keyAt_99 (fun c0 => ?_) (fun c0 => absurd c0 (by decide))
            refine J_iincN (n := 1) (L' := [some (pR (some 158)), some (pI (nI s)), some (pI (nI (tkE T n s - s))), some (pI (nI (wkA i1 + 1))), some (pI (nI (wsA i1))), some (pI (nI i1)), some (pI (nI 0)), some (pI (nI 0))]) dX10_keyAt_104 rfl (by decide) rfl ?_
            refine J_iload dX10_keyAt_107 rfl ?_
            refine J_iconstN (n := 1) dX10_keyAt_109 ?_
            refine J_iaddN dX10_keyAt_110 ?_
            refine J_istore (L' := [some (pR (some 158)), some (pI (nI s)), some (pI (nI (tkE T n s - s))), some (pI (nI (wkA i1 + 1))), some (pI (nI (i1 + 1))), some (pI (nI i1)), some (pI (nI 0)), some (pI (nI 0))]) dX10_keyAt_111 (by decide) rfl ?_
            refine J_iincN (n := 1) (L' := [some (pR (some 158)), some (pI (nI s)), some (pI (nI (tkE T n s - s))), some (pI (nI (wkA i1 + 1))), some (pI (nI (i1 + 1))), some (pI (nI (i1 + 1))), some (pI (nI 0)), some (pI (nI 0))]) dX10_keyAt_113 rfl (by decide) rfl ?_
            refine J_goto dX10_keyAt_116 ?_
            refine J_drop (L' := [some (pR (some 158)), some (pI (nI s)), some (pI (nI (tkE T n s - s))), some (pI (nI (wkA i1 + 1))), some (pI (nI (i1 + 1))), some (pI (nI (i1 + 1))), none, some (pI (nI 0))]) 6 rfl ?_
            refine J_drop (L' := [some (pR (some 158)), some (pI (nI s)), some (pI (nI (tkE T n s - s))), some (pI (nI (wkA i1 + 1))), some (pI (nI (i1 + 1))), some (pI (nI (i1 + 1))), none, none]) 7 rfl ?_
            refine J_L (L' := [some (pR (some 158)), some (pI (nI s)), some (pI (nI (tkE T n s - s))), some (pI (nI (wkA (i1 + 1)))), some (pI (nI (wsA (i1 + 1)))), some (pI (nI (i1 + 1))), none, none]) (by rw [(wk_p dsp).1, (wk_p dsp).2]) ?_
            exact ih1 () _ ⟨rfl, by rw [(wk_p dsp).1]; exact (kwF_s hJ).trans (if_neg (fun y => dl (by have := (hkw.mp y).1; omega)))⟩
          · refine J_iload dX10_keyAt_58 rfl ?_
            refine J_if_eq dX10_keyAt_60 (fun c0 => ?_) (fun c0 => absurd c0 (by decide))
            refine J_iload dX10_keyAt_97 rfl ?_
            refine J_if_eq dX10_keyAt_99 (fun c0 => ?_) (fun c0 => absurd c0 (by decide))
            refine J_iincN (n := 1) (L' := [some (pR (some 158)), some (pI (nI s)), some (pI (nI (tkE T n s - s))), some (pI (nI (wkA i1 + 1))), some (pI (nI (wsA i1))), some (pI (nI i1)), some (pI (nI 0)), some (pI (nI 0))]) dX10_keyAt_104 rfl (by decide) rfl ?_
            refine J_iload dX10_keyAt_107 rfl ?_
            refine J_iconstN (n := 1) dX10_keyAt_109 ?_
            refine J_iaddN dX10_keyAt_110 ?_
            refine J_istore (L' := [some (pR (some 158)), some (pI (nI s)), some (pI (nI (tkE T n s - s))), some (pI (nI (wkA i1 + 1))), some (pI (nI (i1 + 1))), some (pI (nI i1)), some (pI (nI 0)), some (pI (nI 0))]) dX10_keyAt_111 (by decide) rfl ?_
            refine J_iincN (n := 1) (L' := [some (pR (some 158)), some (pI (nI s)), some (pI (nI (tkE T n s - s))), some (pI (nI (wkA i1 + 1))), some (pI (nI (i1 + 1))), some (pI (nI (i1 + 1))), some (pI (nI 0)), some (pI (nI 0))]) dX10_keyAt_113 rfl (by decide) rfl ?_
            refine J_goto dX10_keyAt_116 ?_
            refine J_drop (L' := [some (pR (some 158)), some (pI (nI s)), some (pI (nI (tkE T n s - s))), some (pI (nI (wkA i1 + 1))), some (pI (nI (i1 + 1))), some (pI (nI (i1 + 1))), none, some (pI (nI 0))]) 6 rfl ?_
            refine J_drop (L' := [some (pR (some 158)), some (pI (nI s)), some (pI (nI (tkE T n s - s))), some (pI (nI (wkA i1 + 1))), some (pI (nI (i1 + 1))), some (pI (nI (i1 + 1))), none, none]) 7 rfl ?_
            refine J_L (L' := [some (pR (some 158)), some (pI (nI s)), some (pI (nI (tkE T n s - s))), some (pI (nI (wkA (i1 + 1)))), some (pI (nI (wsA (i1 + 1)))), some (pI (nI (i1 + 1))), none, none]) (by rw [(wk_p dsp).1, (wk_p dsp).2]) ?_
            exact ih1 () _ ⟨rfl, by rw [(wk_p dsp).1]; exact (kwF_s hJ).trans (if_neg (fun y => dl (by have := (hkw.mp y).1; omega)))⟩
        · refine J_iconstN (n := 1) dX10_keyAt_42 ?_
          refine J_goto dX10_keyAt_43 ?_
          refine J_istore (L' := [some (pR (some 158)), some (pI (nI s)), some (pI (nI (tkE T n s - s))), some (pI (nI (wkA i1))), some (pI (nI (wsA i1))), some (pI (nI i1)), some (pI (nI 1)), none]) dX10_keyAt_47 (by decide) rfl ?_
          refine J_iconstN (n := 0) dX10_keyAt_49 ?_
          refine J_istore (L' := [some (pR (some 158)), some (pI (nI s)), some (pI (nI (tkE T n s - s))), some (pI (nI (wkA i1))), some (pI (nI (wsA i1))), some (pI (nI i1)), some (pI (nI 1)), some (pI (nI 0))]) dX10_keyAt_50 (by decide) rfl ?_
          refine J_L (L' := [some (pR (some 158)), some (pI (nI s)), some (pI (nI (tkE T n s - s))), some (pI (nI (wkA i1))), some (pI (nI (wsA i1))), some (pI (nI i1)), some (pI (nI 1)), some (pI (nI 0))]) rfl ?_
          refine J_forI (α := Unit) (L := fun i2 aa2 => [some (pR (some 158)), some (pI (nI s)), some (pI (nI (tkE T n s - s))), some (pI (nI (wkA i1))), some (pI (nI (wsA i1))), some (pI (nI i1)), some (pI (nI 1)), some (pI (nI i2))]) (fun i2 aa2 h2 => h = h2 ∧ ∀ j, j < i2 → chS 13 (wsA i1 + j) = T (s + j)) (e := tkE T n s - s) (fun aa2 h2 hI2 => ?_) (fun i2 aa2 h2 hi2 hI2 ih2 => ?_) 0 (()) _ (by omega) (⟨rfl, fun j hj => absurd hj (Nat.not_lt_zero j)⟩)
          · show J _ _ _ _ _ [some (pR (some 158)), some (pI (nI s)), some (pI (nI (tkE T n s - s))), some (pI (nI (wkA i1))), some (pI (nI (wsA i1))), some (pI (nI i1)), some (pI (nI 1)), some (pI (nI (tkE T n s - s)))] _ _ h2
            obtain ⟨rfl, hE⟩ := hI2
            refine J_iload dX10_keyAt_52 rfl ?_
            refine J_iload_n dX10_keyAt_54 rfl ?_
            refine J_icmp_geN dX10_keyAt_55 (by omega) (by omega) (fun c8 => ?_) (fun c8 => ?_)
            · refine J_iload dX10_keyAt_97 rfl ?_
              refine J_if_eq dX10_keyAt_99 (fun c0 => absurd c0 (by decide)) (fun c0 => ?_)
              refine J_iload_n dX10_keyAt_102 rfl ?_
              exact J_retI dX10_keyAt_103 rfl ⟨by rw [kw_at hwf.2 hJ (hkw.mpr ⟨by omega, fun j hj => (wk_c i1 hi1 dsp j (by have := len_8 _ hwf.2; omega) hj).symm.trans (hE j (by omega))⟩)]; rfl, rfl⟩
            · exact (show False by omega).elim
          · show J _ _ _ _ _ [some (pR (some 158)), some (pI (nI s)), some (pI (nI (tkE T n s - s))), some (pI (nI (wkA i1))), some (pI (nI (wsA i1))), some (pI (nI i1)), some (pI (nI 1)), some (pI (nI i2))] _ _ h2
            obtain ⟨rfl, hE⟩ := hI2
            refine J_iload dX10_keyAt_52 rfl ?_
            refine J_iload_n dX10_keyAt_54 rfl ?_
            refine J_icmp_geN dX10_keyAt_55 (by omega) (by omega) (fun c9 => ?_) (fun c9 => ?_)
            · exact (show False by omega).elim
            · refine J_iload dX10_keyAt_58 rfl ?_
              refine J_if_eq dX10_keyAt_60 (fun c0 => absurd c0 (by decide)) (fun c0 => ?_)
              refine J_ldcS 13 dX10_keyAt_63 (by decide) rfl ?_
              refine J_iload dX10_keyAt_65 rfl ?_
              refine J_iload dX10_keyAt_67 rfl ?_
              refine J_iaddN dX10_keyAt_69 ?_
              refine J_cXI (e0 := 13) (as := [pI (nI (wsA i1 + i2))]) (st := []) dX10_keyAt_70 lX10_124 okJ0_charAt_5068e vJ0_charAt_5068e (by decide) rfl rfl rfl (Nat.le_of_ble_eq_true rfl) ⟨Nat.le_of_ble_eq_true rfl, Nat.le_of_ble_eq_true rfl⟩ CR.f (c_J0_charAt (e0 := 13) (by decide) (show wsA i1 + i2 < 45 by omega)) (fun vq10 gq10 eq10 => ?_)
              rw [eq10.2, eq10.1]
              refine J_aload_n dX10_keyAt_73 rfl ?_
              refine J_iload_n dX10_keyAt_74 rfl ?_
              refine J_iload dX10_keyAt_75 rfl ?_
              refine J_iaddN dX10_keyAt_77 ?_
              refine J_cVI (ci := 10) (c := 158) (as := [pI (nI (s + i2))]) (st := [pI (chS 13 (wsA i1 + i2))]) dX10_keyAt_78 lX10_128 okX10_byteAt vX10_byteAt s158 (by decide) rfl rfl rfl (Nat.le_of_ble_eq_true rfl) ⟨Nat.le_of_ble_eq_true rfl, Nat.le_of_ble_eq_true rfl⟩ CR.f (c_X10_byteAt hG hB (by omega)) (fun vq11 gq11 eq11 => ?_)
              rw [eq11.2, eq11.1]
              refine J_cvI (y := T (s + i2)) ((byM_c hB.2.2.2).2.2.2.2.2 (by omega) (Or.inl (htl.2.2 i2 (by omega)))) ?_
              refine J_icmp_ne dX10_keyAt_81 (fun dc => ?_) (fun dc => ?_)
              · refine J_iconstN (n := 0) dX10_keyAt_88 ?_
                refine J_istore (L' := [some (pR (some 158)), some (pI (nI s)), some (pI (nI (tkE T n s - s))), some (pI (nI (wkA i1))), some (pI (nI (wsA i1))), some (pI (nI i1)), some (pI (nI 0)), some (pI (nI i2))]) dX10_keyAt_89 (by decide) rfl ?_
                refine J_iincN (n := 1) (L' := [some (pR (some 158)), some (pI (nI s)), some (pI (nI (tkE T n s - s))), some (pI (nI (wkA i1))), some (pI (nI (wsA i1))), some (pI (nI i1)), some (pI (nI 0)), some (pI (nI (i2 + 1)))]) dX10_keyAt_91 rfl (by decide) rfl ?_
                refine J_goto dX10_keyAt_94 ?_
                refine J_iload dX10_keyAt_52 rfl ?_
                refine J_iload_n dX10_keyAt_54 rfl ?_
                refine J_icmp_geN dX10_keyAt_55 (by omega) (by omega) (fun c13 => ?_) (fun c13 => ?_)
                · refine J_iload dX10_keyAt_97 rfl ?_
                  refine J_if_eq dX10_keyAt_99 (fun c0 => ?_) (fun c0 => absurd c0 (by decide))
                  refine J_iincN (n := 1) (L' := [some (pR (some 158)), some (pI (nI s)), some (pI (nI (tkE T n s - s))), some (pI (nI (wkA i1 + 1))), some (pI (nI (wsA i1))), some (pI (nI i1)), some (pI (nI 0)), some (pI (nI (i2 + 1)))]) dX10_keyAt_104 rfl (by decide) rfl ?_
                  refine J_iload dX10_keyAt_107 rfl ?_
                  refine J_iconstN (n := 1) dX10_keyAt_109 ?_
                  refine J_iaddN dX10_keyAt_110 ?_
                  refine J_istore (L' := [some (pR (some 158)), some (pI (nI s)), some (pI (nI (tkE T n s - s))), some (pI (nI (wkA i1 + 1))), some (pI (nI (i1 + 1))), some (pI (nI i1)), some (pI (nI 0)), some (pI (nI (i2 + 1)))]) dX10_keyAt_111 (by decide) rfl ?_
                  refine J_iincN (n := 1) (L' := [some (pR (some 158)), some (pI (nI s)), some (pI (nI (tkE T n s - s))), some (pI (nI (wkA i1 + 1))), some (pI (nI (i1 + 1))), some (pI (nI (i1 + 1))), some (pI (nI 0)), some (pI (nI (i2 + 1)))]) dX10_keyAt_113 rfl (by decide) rfl ?_
                  refine J_goto dX10_keyAt_116 ?_
                  refine J_drop (L' := [some (pR (some 158)), some (pI (nI s)), some (pI (nI (tkE T n s - s))), some (pI (nI (wkA i1 + 1))), some (pI (nI (i1 + 1))), some (pI (nI (i1 + 1))), none, some (pI (nI (i2 + 1)))]) 6 rfl ?_
                  refine J_drop (L' := [some (pR (some 158)), some (pI (nI s)), some (pI (nI (tkE T n s - s))), some (pI (nI (wkA i1 + 1))), some (pI (nI (i1 + 1))), some (pI (nI (i1 + 1))), none, none]) 7 rfl ?_
                  refine J_L (L' := [some (pR (some 158)), some (pI (nI s)), some (pI (nI (tkE T n s - s))), some (pI (nI (wkA (i1 + 1)))), some (pI (nI (wsA (i1 + 1)))), some (pI (nI (i1 + 1))), none, none]) (by rw [(wk_p dsp).1, (wk_p dsp).2]) ?_
                  exact ih1 () _ ⟨rfl, by rw [(wk_p dsp).1]; exact (kwF_s hJ).trans (if_neg (fun y => dc (((wk_c i1 hi1 dsp i2 (by have := len_8 _ hwf.2; omega) (by omega))).trans ((hkw.mp y).2 i2 (by omega)))))⟩
                · refine J_iload dX10_keyAt_58 rfl ?_
                  refine J_if_eq dX10_keyAt_60 (fun c0 => ?_) (fun c0 => absurd c0 (by decide))
                  refine J_iload dX10_keyAt_97 rfl ?_
                  refine J_if_eq dX10_keyAt_99 (fun c0 => ?_) (fun c0 => absurd c0 (by decide))
                  refine J_iincN (n := 1) (L' := [some (pR (some 158)), some (pI (nI s)), some (pI (nI (tkE T n s - s))), some (pI (nI (wkA i1 + 1))), some (pI (nI (wsA i1))), some (pI (nI i1)), some (pI (nI 0)), some (pI (nI (i2 + 1)))]) dX10_keyAt_104 rfl (by decide) rfl ?_
                  refine J_iload dX10_keyAt_107 rfl ?_
                  refine J_iconstN (n := 1) dX10_keyAt_109 ?_
                  refine J_iaddN dX10_keyAt_110 ?_
                  refine J_istore (L' := [some (pR (some 158)), some (pI (nI s)), some (pI (nI (tkE T n s - s))), some (pI (nI (wkA i1 + 1))), some (pI (nI (i1 + 1))), some (pI (nI i1)), some (pI (nI 0)), some (pI (nI (i2 + 1)))]) dX10_keyAt_111 (by decide) rfl ?_
                  refine J_iincN (n := 1) (L' := [some (pR (some 158)), some (pI (nI s)), some (pI (nI (tkE T n s - s))), some (pI (nI (wkA i1 + 1))), some (pI (nI (i1 + 1))), some (pI (nI (i1 + 1))), some (pI (nI 0)), some (pI (nI (i2 + 1)))]) dX10_keyAt_113 rfl (by decide) rfl ?_
                  refine J_goto dX10_keyAt_116 ?_
                  refine J_drop (L' := [some (pR (some 158)), some (pI (nI s)), some (pI (nI (tkE T n s - s))), some (pI (nI (wkA i1 + 1))), some (pI (nI (i1 + 1))), some (pI (nI (i1 + 1))), none, some (pI (nI (i2 + 1)))]) 6 rfl ?_
                  refine J_drop (L' := [some (pR (some 158)), some (pI (nI s)), some (pI (nI (tkE T n s - s))), some (pI (nI (wkA i1 + 1))), some (pI (nI (i1 + 1))), some (pI (nI (i1 + 1))), none, none]) 7 rfl ?_
                  refine J_L (L' := [some (pR (some 158)), some (pI (nI s)), some (pI (nI (tkE T n s - s))), some (pI (nI (wkA (i1 + 1)))), some (pI (nI (wsA (i1 + 1)))), some (pI (nI (i1 + 1))), none, none]) (by rw [(wk_p dsp).1, (wk_p dsp).2]) ?_
                  exact ih1 () _ ⟨rfl, by rw [(wk_p dsp).1]; exact (kwF_s hJ).trans (if_neg (fun y => dc (((wk_c i1 hi1 dsp i2 (by have := len_8 _ hwf.2; omega) (by omega))).trans ((hkw.mp y).2 i2 (by omega)))))⟩
              · refine J_iconstN (n := 1) dX10_keyAt_84 ?_
                refine J_goto dX10_keyAt_85 ?_
                refine J_istore (L' := [some (pR (some 158)), some (pI (nI s)), some (pI (nI (tkE T n s - s))), some (pI (nI (wkA i1))), some (pI (nI (wsA i1))), some (pI (nI i1)), some (pI (nI 1)), some (pI (nI i2))]) dX10_keyAt_89 (by decide) rfl ?_
                refine J_iincN (n := 1) (L' := [some (pR (some 158)), some (pI (nI s)), some (pI (nI (tkE T n s - s))), some (pI (nI (wkA i1))), some (pI (nI (wsA i1))), some (pI (nI i1)), some (pI (nI 1)), some (pI (nI (i2 + 1)))]) dX10_keyAt_91 rfl (by decide) rfl ?_
                refine J_goto dX10_keyAt_94 ?_
                exact ih2 () _ ⟨rfl, fun j hj => (Nat.lt_or_ge j i2).elim (hE j) (fun z => (by rw [show j = i2 by omega]; exact dc))⟩
      · refine J_goto dX10_keyAt_30 ?_
        refine J_iincN (n := 1) (L' := [some (pR (some 158)), some (pI (nI s)), some (pI (nI (tkE T n s - s))), some (pI (nI (wkA i1))), some (pI (nI (wsA i1))), some (pI (nI (i1 + 1))), none, none]) dX10_keyAt_113 rfl (by decide) rfl ?_
        refine J_goto dX10_keyAt_116 ?_
        refine J_L (L' := [some (pR (some 158)), some (pI (nI s)), some (pI (nI (tkE T n s - s))), some (pI (nI (wkA (i1 + 1)))), some (pI (nI (wsA (i1 + 1)))), some (pI (nI (i1 + 1))), none, none]) (by rw [(wk_n dsp).1, (wk_n dsp).2]) ?_
        exact ih1 () _ ⟨rfl, by rw [(wk_n dsp).1]; exact hJ⟩
