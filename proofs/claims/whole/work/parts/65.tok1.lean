/-! ===== tokens: the class ===== -/
/-- the Reader's cells of a token alone -/
def Rd (h h' : PH) : Prop := Fr 88 88 h h' ∧ ∀ k, k ≠ 4 → k ≠ 6 → k ≠ 7 → k ≠ 8 → h'.1 88 k = h.1 88 k
theorem Rd.rf {h : PH} : Rd h h := ⟨Fr.rf, fun _ _ _ _ _ => rfl⟩
theorem Rd.tr {h h1 h2 : PH} (a : Rd h h1) (b : Rd h1 h2) : Rd h h2 := ⟨a.1.tr b.1, fun k x1 x2 x3 x4 => (b.2 k x1 x2 x3 x4).trans (a.2 k x1 x2 x3 x4)⟩
theorem Rd.s {h : PH} {k : Nat} {x : Int32} (hk : k = 4 ∨ k = 6 ∨ k = 7 ∨ k = 8) : Rd h (sI h 88 k x) := ⟨Fr.sI (Nat.le_refl _) (Nat.le_refl _), fun j x1 x2 x3 x4 => rI_k (by omega)⟩
/-- the same but for the token's start -/
def Rw (h h' : PH) : Prop := Fr 88 88 h h' ∧ ∀ k, k ≠ 4 → k ≠ 6 → k ≠ 8 → h'.1 88 k = h.1 88 k
theorem Rw.rf {h : PH} : Rw h h := ⟨Fr.rf, fun _ _ _ _ => rfl⟩
theorem Rw.tr {h h1 h2 : PH} (a : Rw h h1) (b : Rw h1 h2) : Rw h h2 := ⟨a.1.tr b.1, fun k x1 x2 x3 => (b.2 k x1 x2 x3).trans (a.2 k x1 x2 x3)⟩
theorem Rw.s {h : PH} {k : Nat} {x : Int32} (hk : k = 4 ∨ k = 6 ∨ k = 8) : Rw h (sI h 88 k x) := ⟨Fr.sI (Nat.le_refl _) (Nat.le_refl _), fun j x1 x2 x3 => rI_k (by omega)⟩
theorem Rw.d {h h' : PH} (a : Rw h h') : Rd h h' := ⟨a.1, fun k x1 x2 _ x4 => a.2 k x1 x2 x4⟩
def tcd (K : Nat) : Int32 := if K = 0 then nI 0 else if K = 2 then nI 119 else if K = 3 then nI 110 else if K = 4 then nI 59 else nI 1
/-- what the Reader reads: the tape's bytes, the text's size -/
def Rt (h : PH) (T : Nat → Int32) (n : Nat) : Prop := h.2.2 88 2 = some 1 ∧ (∀ i, i < 900 → h.1 1 i = T i) ∧ h.1 88 3 = nI n ∧ n ≤ 900
theorem Rt.rd {h h' : PH} {T : Nat → Int32} {n : Nat} (a : Rt h T n) (f : Rd h h') : Rt h' T n := ⟨f.1.r.trans a.1, fun i hi => (f.1.i (by decide)).trans (a.2.1 i hi), (f.2 3 (by decide) (by decide) (by decide) (by decide)).trans a.2.2.1, a.2.2.2⟩
theorem bI_b {b : Bool} : bI (b = true) = if b = true then nI 1 else nI 0 := rfl
theorem c_X5_isBlank {h : PH} {x : Int32} : CtI mX5_isBlank h [pI x] (fun v h' => v = bI (cBl x = true) ∧ h' = h) := by
  refine Ct.of (L := [some (pI x)]) rfl rfl (Nat.le_of_ble_eq_true rfl) rfl ?_
  refine J_iload_n dX5_isBlank_0 rfl ?_
  refine J_bipush (x := nI 32) dX5_isBlank_1 (by decide) ?_
  refine J_icmp_eq dX5_isBlank_3 (fun d1 => ?_) (fun d1 => ?_)
  · refine J_iconstN (n := 1) dX5_isBlank_12 ?_
    refine J_goto dX5_isBlank_13 ?_
    exact J_retZ dX5_isBlank_17 rfl rfl ⟨bI_t (decide_eq_true (by first | exact Or.inl d1 | exact Or.inr d2)), rfl⟩
  · refine J_iload_n dX5_isBlank_6 rfl ?_
    refine J_bipush (x := nI 10) dX5_isBlank_7 (by decide) ?_
    refine J_icmp_ne dX5_isBlank_9 (fun d2 => ?_) (fun d2 => ?_)
    · refine J_iconstN (n := 0) dX5_isBlank_16 ?_
      exact J_retZ dX5_isBlank_17 rfl rfl ⟨bI_f (fun q => (of_decide_eq_true q).elim d1 d2), rfl⟩
    · refine J_iconstN (n := 1) dX5_isBlank_12 ?_
      refine J_goto dX5_isBlank_13 ?_
      exact J_retZ dX5_isBlank_17 rfl rfl ⟨bI_t (decide_eq_true (by first | exact Or.inl d1 | exact Or.inr d2)), rfl⟩
theorem c_X5_isLetter {h : PH} {x : Int32} : CtI mX5_isLetter h [pI x] (fun v h' => v = bI (cLe x = true) ∧ h' = h) := by
  refine Ct.of (L := [some (pI x)]) rfl rfl (Nat.le_of_ble_eq_true rfl) rfl ?_
  refine J_iload_n dX5_isLetter_0 rfl ?_
  refine J_bipush (x := nI 97) dX5_isLetter_1 (by decide) ?_
  refine J_icmp_lt dX5_isLetter_3 (fun d1 => ?_) (fun d1 => ?_)
  · refine J_iconstN (n := 0) dX5_isLetter_16 ?_
    exact J_retZ dX5_isLetter_17 rfl rfl ⟨bI_f (fun q => by have z := (lt_nI (b := 97) (by decide)).mp d1; have y := of_decide_eq_true q; omega), rfl⟩
  · refine J_iload_n dX5_isLetter_6 rfl ?_
    refine J_bipush (x := nI 122) dX5_isLetter_7 (by decide) ?_
    refine J_icmp_gt dX5_isLetter_9 (fun d2 => ?_) (fun d2 => ?_)
    · refine J_iconstN (n := 0) dX5_isLetter_16 ?_
      exact J_retZ dX5_isLetter_17 rfl rfl ⟨bI_f (fun q => by have z := (nI_lt_ (b := 122) (by decide)).mp d2; have y := of_decide_eq_true q; omega), rfl⟩
    · refine J_iconstN (n := 1) dX5_isLetter_12 ?_
      refine J_goto dX5_isLetter_13 ?_
      exact J_retZ dX5_isLetter_17 rfl rfl ⟨bI_t (decide_eq_true ⟨by have z := mt (lt_nI (b := 97) (by decide)).mpr d1; omega, by have z := mt (nI_lt_ (b := 122) (by decide)).mpr d2; omega⟩), rfl⟩
theorem c_X5_isDigit {h : PH} {x : Int32} : CtI mX5_isDigit h [pI x] (fun v h' => v = bI (cDi x = true) ∧ h' = h) := by
  refine Ct.of (L := [some (pI x)]) rfl rfl (Nat.le_of_ble_eq_true rfl) rfl ?_
  refine J_iload_n dX5_isDigit_0 rfl ?_
  refine J_bipush (x := nI 48) dX5_isDigit_1 (by decide) ?_
  refine J_icmp_lt dX5_isDigit_3 (fun d1 => ?_) (fun d1 => ?_)
  · refine J_iconstN (n := 0) dX5_isDigit_16 ?_
    exact J_retZ dX5_isDigit_17 rfl rfl ⟨bI_f (fun q => by have z := (lt_nI (b := 48) (by decide)).mp d1; have y := of_decide_eq_true q; omega), rfl⟩
  · refine J_iload_n dX5_isDigit_6 rfl ?_
    refine J_bipush (x := nI 57) dX5_isDigit_7 (by decide) ?_
    refine J_icmp_gt dX5_isDigit_9 (fun d2 => ?_) (fun d2 => ?_)
    · refine J_iconstN (n := 0) dX5_isDigit_16 ?_
      exact J_retZ dX5_isDigit_17 rfl rfl ⟨bI_f (fun q => by have z := (nI_lt_ (b := 57) (by decide)).mp d2; have y := of_decide_eq_true q; omega), rfl⟩
    · refine J_iconstN (n := 1) dX5_isDigit_12 ?_
      refine J_goto dX5_isDigit_13 ?_
      exact J_retZ dX5_isDigit_17 rfl rfl ⟨bI_t (decide_eq_true ⟨by have z := mt (lt_nI (b := 48) (by decide)).mpr d1; omega, by have z := mt (nI_lt_ (b := 57) (by decide)).mpr d2; omega⟩), rfl⟩
theorem c_X5_readWord {h : PH} {T : Nat → Int32} {n s : Nat} (hG : GR h.2.2) (hR : Rt h T n) (h4 : h.1 88 4 = nI s) (h7 : h.1 88 7 = nI s) (hs : s < n) : CtV mX5_readWord h [pR (some 88)] (fun h' => Rw h h' ∧ h'.1 88 4 = nI (rn cLe T n s) ∧ h'.1 88 6 = (if rn cLe T n s - s ≤ 8 then nI 119 else nI 1)) := by
  have hG0 := hG
  have hn9 := hR.2.2.2
  refine Ct.of (L := [some (pR (some 88))]) rfl rfl (Nat.le_of_ble_eq_true rfl) rfl ?_
  refine J_L (L' := [some (pR (some 88))]) rfl ?_
  have hge := rn_ge (c := cLe) (T := T) (n := n) (p := s)
  have hle := rn_le (c := cLe) (T := T) (n := n) (p := s) (by omega)
  refine J_forI (α := Unit) (L := fun i1 aa1 => [some (pR (some 88))]) (fun i1 aa1 h1 => h1.1 88 4 = nI (s + i1) ∧ Rw h h1) (e := rn cLe T n s - s) (fun aa1 h1 hI1 => ?_) (fun i1 aa1 h1 hi1 hI1 ih1 => ?_) 0 (()) _ (by omega) (⟨h4, Rw.rf⟩)
  · show J _ _ _ _ _ [some (pR (some 88))] _ _ h1
    rw [show s + (rn cLe T n s - s) = rn cLe T n s by omega] at hI1
    obtain ⟨hI4, hI5⟩ := hI1
    have hR1 := hR.rd hI5.d
    have ht := hR1.1
    have hG := hI5.1.g hG0
    have hn9 := hR1.2.2.2
    have ho := rn_out (c := cLe) (T := T) (n := n) (p := s)
    refine J_aload_n dX5_readWord_0 rfl ?_
    refine J_getI dX5_readWord_1 fX5_39 s88 (fun _ => rfl) ?_
    refine J_cvI (hI4) ?_
    refine J_aload_n dX5_readWord_4 rfl ?_
    refine J_getI dX5_readWord_5 fX5_32 s88 (fun _ => rfl) ?_
    refine J_cvI (hR1.2.2.1) ?_
    refine J_icmp_geN dX5_readWord_8 (by omega) (by omega) (fun c1 => ?_) (fun c1 => ?_)
    · refine J_aload_n dX5_readWord_39 rfl ?_
      refine J_aload_n dX5_readWord_40 rfl ?_
      refine J_getI dX5_readWord_41 fX5_39 s88 (fun _ => rfl) ?_
      refine J_cvI (hI4) ?_
      refine J_aload_n dX5_readWord_44 rfl ?_
      refine J_getI dX5_readWord_45 fX5_52 s88 (fun _ => rfl) ?_
      refine J_cvI (((hI5.2 7 (by decide) (by decide) (by decide)).trans h7)) ?_
      refine J_isubN dX5_readWord_48 (by omega) ?_
      refine J_bipush (x := nI 8) dX5_readWord_49 (by decide) ?_
      refine J_icmp_gtN dX5_readWord_51 (by omega) (by omega) (fun dz => ?_) (fun dz => ?_)
      · refine J_iconstN (n := 1) dX5_readWord_59 ?_
        refine J_putI dX5_readWord_60 fX5_55 s88 rfl (vp_nar_int _) rfl (fun _ _ => rfl) ?_
        exact J_retV dX5_readWord_63 rfl ⟨hI5.tr (Rw.s (by omega)), (rI_k (by decide)).trans hI4, rI_s.trans (if_neg (by omega)).symm⟩
      · refine J_bipush (x := nI 119) dX5_readWord_54 (by decide) ?_
        refine J_goto dX5_readWord_56 ?_
        refine J_putI dX5_readWord_60 fX5_55 s88 rfl (vp_nar_int _) rfl (fun _ _ => rfl) ?_
        exact J_retV dX5_readWord_63 rfl ⟨hI5.tr (Rw.s (by omega)), (rI_k (by decide)).trans hI4, rI_s.trans (if_pos (by omega)).symm⟩
    · refine J_aload_n dX5_readWord_11 rfl ?_
      refine J_getR (r := some 1) dX5_readWord_12 fX5_28 s88 (fun _ => rfl) (ht) ?_
      refine J_aload_n dX5_readWord_15 rfl ?_
      refine J_getI dX5_readWord_16 fX5_39 s88 (fun _ => rfl) ?_
      refine J_cvI (hI4) ?_
      refine J_baldN dX5_readWord_19 s1 (by decide) (by omega) ?_
      refine J_cvI ((hR1.2.1 _ (by omega))) ?_
      refine J_cSI (as := [pI (T (rn cLe T n s))]) (st := []) dX5_readWord_20 lX5_65 okX5_isLetter sX5_isLetter rfl rfl (Nat.le_of_ble_eq_true rfl) ⟨Nat.le_of_ble_eq_true rfl, Nat.le_of_ble_eq_true rfl⟩ CR.f (c_X5_isLetter) (fun vq3 gq3 eq3 => ?_)
      obtain ⟨rfl, fq3⟩ := eq3
      rw [fq3]
      refine J_if_eqB dX5_readWord_23 (fun c4 => ?_) (fun c4 => ?_)
      · refine J_aload_n dX5_readWord_39 rfl ?_
        refine J_aload_n dX5_readWord_40 rfl ?_
        refine J_getI dX5_readWord_41 fX5_39 s88 (fun _ => rfl) ?_
        refine J_cvI (hI4) ?_
        refine J_aload_n dX5_readWord_44 rfl ?_
        refine J_getI dX5_readWord_45 fX5_52 s88 (fun _ => rfl) ?_
        refine J_cvI (((hI5.2 7 (by decide) (by decide) (by decide)).trans h7)) ?_
        refine J_isubN dX5_readWord_48 (by omega) ?_
        refine J_bipush (x := nI 8) dX5_readWord_49 (by decide) ?_
        refine J_icmp_gtN dX5_readWord_51 (by omega) (by omega) (fun dz => ?_) (fun dz => ?_)
        · refine J_iconstN (n := 1) dX5_readWord_59 ?_
          refine J_putI dX5_readWord_60 fX5_55 s88 rfl (vp_nar_int _) rfl (fun _ _ => rfl) ?_
          exact J_retV dX5_readWord_63 rfl ⟨hI5.tr (Rw.s (by omega)), (rI_k (by decide)).trans hI4, rI_s.trans (if_neg (by omega)).symm⟩
        · refine J_bipush (x := nI 119) dX5_readWord_54 (by decide) ?_
          refine J_goto dX5_readWord_56 ?_
          refine J_putI dX5_readWord_60 fX5_55 s88 rfl (vp_nar_int _) rfl (fun _ _ => rfl) ?_
          exact J_retV dX5_readWord_63 rfl ⟨hI5.tr (Rw.s (by omega)), (rI_k (by decide)).trans hI4, rI_s.trans (if_pos (by omega)).symm⟩
      · exact absurd ⟨by omega, c4⟩ ho
  · show J _ _ _ _ _ [some (pR (some 88))] _ _ h1
    obtain ⟨hI4, hI5⟩ := hI1
    have hR1 := hR.rd hI5.d
    have ht := hR1.1
    have hG := hI5.1.g hG0
    have hn9 := hR1.2.2.2
    have hin := rn_in (c := cLe) (T := T) (n := n) (p := s) (j := s + i1) (by omega) (by omega)
    have hin1 := hin.1
    refine J_aload_n dX5_readWord_0 rfl ?_
    refine J_getI dX5_readWord_1 fX5_39 s88 (fun _ => rfl) ?_
    refine J_cvI (hI4) ?_
    refine J_aload_n dX5_readWord_4 rfl ?_
    refine J_getI dX5_readWord_5 fX5_32 s88 (fun _ => rfl) ?_
    refine J_cvI (hR1.2.2.1) ?_
    refine J_icmp_geN dX5_readWord_8 (by omega) (by omega) (fun c6 => ?_) (fun c6 => ?_)
    · exact (show False by omega).elim
    · refine J_aload_n dX5_readWord_11 rfl ?_
      refine J_getR (r := some 1) dX5_readWord_12 fX5_28 s88 (fun _ => rfl) (ht) ?_
      refine J_aload_n dX5_readWord_15 rfl ?_
      refine J_getI dX5_readWord_16 fX5_39 s88 (fun _ => rfl) ?_
      refine J_cvI (hI4) ?_
      refine J_baldN dX5_readWord_19 s1 (by decide) (by omega) ?_
      refine J_cvI ((hR1.2.1 _ (by omega))) ?_
      refine J_cSI (as := [pI (T (s + i1))]) (st := []) dX5_readWord_20 lX5_65 okX5_isLetter sX5_isLetter rfl rfl (Nat.le_of_ble_eq_true rfl) ⟨Nat.le_of_ble_eq_true rfl, Nat.le_of_ble_eq_true rfl⟩ CR.f (c_X5_isLetter) (fun vq7 gq7 eq7 => ?_)
      obtain ⟨rfl, fq7⟩ := eq7
      rw [fq7]
      refine J_if_eqB dX5_readWord_23 (fun c8 => ?_) (fun c8 => ?_)
      · exact absurd hin.2 c8
      · refine J_aload_n dX5_readWord_26 rfl ?_
        refine J_dup dX5_readWord_27 rfl ?_
        refine J_getI dX5_readWord_28 fX5_39 s88 (fun _ => rfl) ?_
        refine J_cvI (hI4) ?_
        refine J_iconstN (n := 1) dX5_readWord_31 ?_
        refine J_iaddN dX5_readWord_32 ?_
        refine J_putI dX5_readWord_33 fX5_39 s88 rfl (vp_nar_int _) rfl (fun _ _ => rfl) ?_
        refine J_goto dX5_readWord_36 ?_
        exact ih1 () _ ⟨rI_s, hI5.tr (Rw.s (by omega))⟩
theorem c_X5_readNumber {h : PH} {T : Nat → Int32} {n s : Nat} (hG : GR h.2.2) (hR : Rt h T n) (h4 : h.1 88 4 = nI s) (h7 : h.1 88 7 = nI s) (hs : s < n) : CtV mX5_readNumber h [pR (some 88)] (fun h' => Rw h h' ∧ h'.1 88 4 = nI (rn cDi T n s) ∧ h'.1 88 6 = (if rn cDi T n s - s ≤ 3 then nI 110 else nI 1) ∧ h'.1 88 8 = nI (nvN T s (rn cDi T n s - s))) := by
  have hG0 := hG
  have hn9 := hR.2.2.2
  refine Ct.of (L := [some (pR (some 88))]) rfl rfl (Nat.le_of_ble_eq_true rfl) rfl ?_
  refine J_aload_n dX5_readNumber_0 rfl ?_
  refine J_iconstN (n := 0) dX5_readNumber_1 ?_
  refine J_putI dX5_readNumber_2 fX5_77 s88 rfl (vp_nar_int _) rfl (fun _ _ => rfl) ?_
  refine J_L (L' := [some (pR (some 88))]) rfl ?_
  have hge := rn_ge (c := cDi) (T := T) (n := n) (p := s)
  have hle := rn_le (c := cDi) (T := T) (n := n) (p := s) (by omega)
  refine J_forI (α := Unit) (L := fun i1 aa1 => [some (pR (some 88))]) (fun i1 aa1 h1 => h1.1 88 4 = nI (s + i1) ∧ Rw h h1 ∧ h1.1 88 8 = nI (nvN T s i1)) (e := rn cDi T n s - s) (fun aa1 h1 hI1 => ?_) (fun i1 aa1 h1 hi1 hI1 ih1 => ?_) 0 (()) _ (by omega) (⟨(rI_k (by decide)).trans h4, Rw.s (by omega), rI_s⟩)
  · show J _ _ _ _ _ [some (pR (some 88))] _ _ h1
    rw [show s + (rn cDi T n s - s) = rn cDi T n s by omega] at hI1
    obtain ⟨hI4, hI5, hI8⟩ := hI1
    have hR1 := hR.rd hI5.d
    have ht := hR1.1
    have hG := hI5.1.g hG0
    have hn9 := hR1.2.2.2
    have ho := rn_out (c := cDi) (T := T) (n := n) (p := s)
    refine J_aload_n dX5_readNumber_5 rfl ?_
    refine J_getI dX5_readNumber_6 fX5_39 s88 (fun _ => rfl) ?_
    refine J_cvI (hI4) ?_
    refine J_aload_n dX5_readNumber_9 rfl ?_
    refine J_getI dX5_readNumber_10 fX5_32 s88 (fun _ => rfl) ?_
    refine J_cvI (hR1.2.2.1) ?_
    refine J_icmp_geN dX5_readNumber_13 (by omega) (by omega) (fun c1 => ?_) (fun c1 => ?_)
    · refine J_aload_n dX5_readNumber_68 rfl ?_
      refine J_aload_n dX5_readNumber_69 rfl ?_
      refine J_getI dX5_readNumber_70 fX5_39 s88 (fun _ => rfl) ?_
      refine J_cvI (hI4) ?_
      refine J_aload_n dX5_readNumber_73 rfl ?_
      refine J_getI dX5_readNumber_74 fX5_52 s88 (fun _ => rfl) ?_
      refine J_cvI (((hI5.2 7 (by decide) (by decide) (by decide)).trans h7)) ?_
      refine J_isubN dX5_readNumber_77 (by omega) ?_
      refine J_iconstN (n := 3) dX5_readNumber_78 ?_
      refine J_icmp_gtN dX5_readNumber_79 (by omega) (by omega) (fun dz => ?_) (fun dz => ?_)
      · refine J_iconstN (n := 1) dX5_readNumber_87 ?_
        refine J_putI dX5_readNumber_88 fX5_55 s88 rfl (vp_nar_int _) rfl (fun _ _ => rfl) ?_
        exact J_retV dX5_readNumber_91 rfl ⟨hI5.tr (Rw.s (by omega)), (rI_k (by decide)).trans hI4, rI_s.trans (if_neg (by omega)).symm, (rI_k (by decide)).trans hI8⟩
      · refine J_bipush (x := nI 110) dX5_readNumber_82 (by decide) ?_
        refine J_goto dX5_readNumber_84 ?_
        refine J_putI dX5_readNumber_88 fX5_55 s88 rfl (vp_nar_int _) rfl (fun _ _ => rfl) ?_
        exact J_retV dX5_readNumber_91 rfl ⟨hI5.tr (Rw.s (by omega)), (rI_k (by decide)).trans hI4, rI_s.trans (if_pos (by omega)).symm, (rI_k (by decide)).trans hI8⟩
    · refine J_aload_n dX5_readNumber_16 rfl ?_
      refine J_getR (r := some 1) dX5_readNumber_17 fX5_28 s88 (fun _ => rfl) (ht) ?_
      refine J_aload_n dX5_readNumber_20 rfl ?_
      refine J_getI dX5_readNumber_21 fX5_39 s88 (fun _ => rfl) ?_
      refine J_cvI (hI4) ?_
      refine J_baldN dX5_readNumber_24 s1 (by decide) (by omega) ?_
      refine J_cvI ((hR1.2.1 _ (by omega))) ?_
      refine J_cSI (as := [pI (T (rn cDi T n s))]) (st := []) dX5_readNumber_25 lX5_71 okX5_isDigit sX5_isDigit rfl rfl (Nat.le_of_ble_eq_true rfl) ⟨Nat.le_of_ble_eq_true rfl, Nat.le_of_ble_eq_true rfl⟩ CR.f (c_X5_isDigit) (fun vq3 gq3 eq3 => ?_)
      obtain ⟨rfl, fq3⟩ := eq3
      rw [fq3]
      refine J_if_eqB dX5_readNumber_28 (fun c4 => ?_) (fun c4 => ?_)
      · refine J_aload_n dX5_readNumber_68 rfl ?_
        refine J_aload_n dX5_readNumber_69 rfl ?_
        refine J_getI dX5_readNumber_70 fX5_39 s88 (fun _ => rfl) ?_
        refine J_cvI (hI4) ?_
        refine J_aload_n dX5_readNumber_73 rfl ?_
        refine J_getI dX5_readNumber_74 fX5_52 s88 (fun _ => rfl) ?_
        refine J_cvI (((hI5.2 7 (by decide) (by decide) (by decide)).trans h7)) ?_
        refine J_isubN dX5_readNumber_77 (by omega) ?_
        refine J_iconstN (n := 3) dX5_readNumber_78 ?_
        refine J_icmp_gtN dX5_readNumber_79 (by omega) (by omega) (fun dz => ?_) (fun dz => ?_)
        · refine J_iconstN (n := 1) dX5_readNumber_87 ?_
          refine J_putI dX5_readNumber_88 fX5_55 s88 rfl (vp_nar_int _) rfl (fun _ _ => rfl) ?_
          exact J_retV dX5_readNumber_91 rfl ⟨hI5.tr (Rw.s (by omega)), (rI_k (by decide)).trans hI4, rI_s.trans (if_neg (by omega)).symm, (rI_k (by decide)).trans hI8⟩
        · refine J_bipush (x := nI 110) dX5_readNumber_82 (by decide) ?_
          refine J_goto dX5_readNumber_84 ?_
          refine J_putI dX5_readNumber_88 fX5_55 s88 rfl (vp_nar_int _) rfl (fun _ _ => rfl) ?_
          exact J_retV dX5_readNumber_91 rfl ⟨hI5.tr (Rw.s (by omega)), (rI_k (by decide)).trans hI4, rI_s.trans (if_pos (by omega)).symm, (rI_k (by decide)).trans hI8⟩
      · exact absurd ⟨by omega, c4⟩ ho
  · show J _ _ _ _ _ [some (pR (some 88))] _ _ h1
    obtain ⟨hI4, hI5, hI8⟩ := hI1
    have hR1 := hR.rd hI5.d
    have ht := hR1.1
    have hG := hI5.1.g hG0
    have hn9 := hR1.2.2.2
    have hin := rn_in (c := cDi) (T := T) (n := n) (p := s) (j := s + i1) (by omega) (by omega)
    have hin1 := hin.1
    have hdg := cDi_b hin.2
    refine J_aload_n dX5_readNumber_5 rfl ?_
    refine J_getI dX5_readNumber_6 fX5_39 s88 (fun _ => rfl) ?_
    refine J_cvI (hI4) ?_
    refine J_aload_n dX5_readNumber_9 rfl ?_
    refine J_getI dX5_readNumber_10 fX5_32 s88 (fun _ => rfl) ?_
    refine J_cvI (hR1.2.2.1) ?_
    refine J_icmp_geN dX5_readNumber_13 (by omega) (by omega) (fun c6 => ?_) (fun c6 => ?_)
    · exact (show False by omega).elim
    · refine J_aload_n dX5_readNumber_16 rfl ?_
      refine J_getR (r := some 1) dX5_readNumber_17 fX5_28 s88 (fun _ => rfl) (ht) ?_
      refine J_aload_n dX5_readNumber_20 rfl ?_
      refine J_getI dX5_readNumber_21 fX5_39 s88 (fun _ => rfl) ?_
      refine J_cvI (hI4) ?_
      refine J_baldN dX5_readNumber_24 s1 (by decide) (by omega) ?_
      refine J_cvI ((hR1.2.1 _ (by omega))) ?_
      refine J_cSI (as := [pI (T (s + i1))]) (st := []) dX5_readNumber_25 lX5_71 okX5_isDigit sX5_isDigit rfl rfl (Nat.le_of_ble_eq_true rfl) ⟨Nat.le_of_ble_eq_true rfl, Nat.le_of_ble_eq_true rfl⟩ CR.f (c_X5_isDigit) (fun vq7 gq7 eq7 => ?_)
      obtain ⟨rfl, fq7⟩ := eq7
      rw [fq7]
      refine J_if_eqB dX5_readNumber_28 (fun c8 => ?_) (fun c8 => ?_)
      · exact absurd hin.2 c8
      · refine J_aload_n dX5_readNumber_31 rfl ?_
        refine J_aload_n dX5_readNumber_32 rfl ?_
        refine J_getI dX5_readNumber_33 fX5_77 s88 (fun _ => rfl) ?_
        refine J_cvI (hI8) ?_
        refine J_bipush (x := nI 10) dX5_readNumber_36 (by decide) ?_
        refine J_imulN dX5_readNumber_38 ?_
        refine J_aload_n dX5_readNumber_39 rfl ?_
        refine J_getR (r := some 1) dX5_readNumber_40 fX5_28 s88 (fun _ => rfl) (ht) ?_
        refine J_aload_n dX5_readNumber_43 rfl ?_
        refine J_getI dX5_readNumber_44 fX5_39 s88 (fun _ => rfl) ?_
        refine J_cvI (hI4) ?_
        refine J_baldN dX5_readNumber_47 s1 (by decide) (by omega) ?_
        refine J_cvI ((hR1.2.1 _ (by omega))) ?_
        refine J_iadd dX5_readNumber_48 ?_
        refine J_bipush (x := nI 48) dX5_readNumber_49 (by decide) ?_
        refine J_isub dX5_readNumber_51 ?_
        refine J_cvI (y := nI (nvN T s (i1 + 1))) (by show _ = nI (nvN T s i1 * 10 + (cl (T (s + i1)) - 48)); have b1 := hdg.1; have e := hdg.2.2; generalize cl (T (s + i1)) = c at e b1 ⊢; rw [e, nI_add, pk_sub (by omega)]; congr 1; omega) ?_
        refine J_putI dX5_readNumber_52 fX5_77 s88 rfl (vp_nar_int _) rfl (fun _ _ => rfl) ?_
        refine J_aload_n dX5_readNumber_55 rfl ?_
        refine J_dup dX5_readNumber_56 rfl ?_
        refine J_getI dX5_readNumber_57 fX5_39 s88 (fun _ => rfl) ?_
        refine J_cvI ((rI_k (by decide)).trans (hI4)) ?_
        refine J_iconstN (n := 1) dX5_readNumber_60 ?_
        refine J_iaddN dX5_readNumber_61 ?_
        refine J_putI dX5_readNumber_62 fX5_39 s88 rfl (vp_nar_int _) rfl (fun _ _ => rfl) ?_
        refine J_goto dX5_readNumber_65 ?_
        exact ih1 () _ ⟨rI_s, (hI5.tr (Rw.s (by omega))).tr (Rw.s (by omega)), (rI_k (by decide)).trans rI_s⟩
theorem tk_end {T : Nat → Int32} {n s : Nat} (h : n ≤ s) : tkE T n s = s ∧ tcd (tkK T n s) = nI 0 ∧ tkK T n s ≠ 3 := by
  have e : tkK T n s = 0 := if_pos h
  exact ⟨if_pos h, by rw [e]; rfl, by omega⟩
theorem tk_word {T : Nat → Int32} {n s : Nat} (h : s < n) (hl : cLe (T s) = true) : tkE T n s = rn cLe T n s ∧ tcd (tkK T n s) = (if rn cLe T n s - s ≤ 8 then nI 119 else nI 1) ∧ tkK T n s ≠ 3 := by
  have e : tkK T n s = if rn cLe T n s - s ≤ 8 then 2 else 1 := by
    unfold tkK
    rw [if_neg (by omega), if_pos hl]
  refine ⟨by unfold tkE; rw [if_neg (by omega), if_pos hl], ?_, ?_⟩
  · rw [e]
    split <;> rfl
  · rw [e]
    split <;> decide
theorem tk_num {T : Nat → Int32} {n s : Nat} (h : s < n) (hl : ¬ cLe (T s) = true) (hd : cDi (T s) = true) : tkE T n s = rn cDi T n s ∧ tcd (tkK T n s) = (if rn cDi T n s - s ≤ 3 then nI 110 else nI 1) ∧ (tkK T n s = 3 → tkV T n s = nvN T s (rn cDi T n s - s)) := by
  have e : tkK T n s = if rn cDi T n s - s ≤ 3 then 3 else 1 := by
    unfold tkK
    rw [if_neg (by omega), if_neg hl, if_pos hd]
  have e2 : tkE T n s = rn cDi T n s := by unfold tkE; rw [if_neg (by omega), if_neg hl, if_pos hd]
  refine ⟨e2, ?_, fun z => ?_⟩
  · rw [e]
    split <;> rfl
  · unfold tkV
    rw [if_neg (by omega), e2]
theorem tk_semi {T : Nat → Int32} {n s : Nat} (h : s < n) (hl : ¬ cLe (T s) = true) (hd : ¬ cDi (T s) = true) : tkE T n s = s + 1 ∧ tcd (tkK T n s) = (if T s = nI 59 then nI 59 else nI 1) ∧ tkK T n s ≠ 3 := by
  have e : tkK T n s = if T s = nI 59 then 4 else 1 := by
    unfold tkK
    rw [if_neg (by omega), if_neg hl, if_neg hd]
  refine ⟨by unfold tkE; rw [if_neg (by omega), if_neg hl, if_neg hd], ?_, ?_⟩
  · rw [e]
    split <;> rfl
  · rw [e]
    split <;> decide
theorem c_X5_readToken {h : PH} {T : Nat → Int32} {n p : Nat} (hG : GR h.2.2) (hR : Rt h T n) (h4 : h.1 88 4 = nI p) (hp : p ≤ n) : CtV mX5_readToken h [pR (some 88)] (fun h' => Rd h h' ∧ h'.1 88 7 = nI (rn cBl T n p) ∧ h'.1 88 4 = nI (tkE T n (rn cBl T n p)) ∧ h'.1 88 6 = tcd (tkK T n (rn cBl T n p)) ∧ (tkK T n (rn cBl T n p) = 3 → h'.1 88 8 = nI (tkV T n (rn cBl T n p)))) := by
  have hG0 := hG
  have hn9 := hR.2.2.2
  refine Ct.of (L := [some (pR (some 88))]) rfl rfl (Nat.le_of_ble_eq_true rfl) rfl ?_
  refine J_L (L' := [some (pR (some 88))]) rfl ?_
  have hge := rn_ge (c := cBl) (T := T) (n := n) (p := p)
  have hle := rn_le (c := cBl) (T := T) (n := n) (p := p) (by omega)
  refine J_forI (α := Unit) (L := fun i1 aa1 => [some (pR (some 88))]) (fun i1 aa1 h1 => h1.1 88 4 = nI (p + i1) ∧ Rw h h1) (e := rn cBl T n p - p) (fun aa1 h1 hI1 => ?_) (fun i1 aa1 h1 hi1 hI1 ih1 => ?_) 0 (()) _ (by omega) (⟨h4, Rw.rf⟩)
  · show J _ _ _ _ _ [some (pR (some 88))] _ _ h1
    rw [show p + (rn cBl T n p - p) = rn cBl T n p by omega] at hI1
    obtain ⟨hI4, hI5⟩ := hI1
    have hR1 := hR.rd hI5.d
    have ht := hR1.1
    have hG := hI5.1.g hG0
    have hn9 := hR1.2.2.2
    have ho := rn_out (c := cBl) (T := T) (n := n) (p := p)
    refine J_aload_n dX5_readToken_0 rfl ?_
    refine J_getI dX5_readToken_1 fX5_39 s88 (fun _ => rfl) ?_
    refine J_cvI (hI4) ?_
    refine J_aload_n dX5_readToken_4 rfl ?_
    refine J_getI dX5_readToken_5 fX5_32 s88 (fun _ => rfl) ?_
    refine J_cvI (hR1.2.2.1) ?_
    refine J_icmp_geN dX5_readToken_8 (by omega) (by omega) (fun c1 => ?_) (fun c1 => ?_)
    · refine J_aload_n dX5_readToken_39 rfl ?_
      refine J_aload_n dX5_readToken_40 rfl ?_
      refine J_getI dX5_readToken_41 fX5_39 s88 (fun _ => rfl) ?_
      refine J_cvI (hI4) ?_
      refine J_putI dX5_readToken_44 fX5_52 s88 rfl (vp_nar_int _) rfl (fun _ _ => rfl) ?_
      refine J_aload_n dX5_readToken_47 rfl ?_
      refine J_getI dX5_readToken_48 fX5_39 s88 (fun _ => rfl) ?_
      refine J_cvI ((rI_k (by decide)).trans (hI4)) ?_
      refine J_aload_n dX5_readToken_51 rfl ?_
      refine J_getI dX5_readToken_52 fX5_32 s88 (fun _ => rfl) ?_
      refine J_cvI ((rI_k (by decide)).trans (hR1.2.2.1)) ?_
      refine J_icmp_ltN dX5_readToken_55 (by omega) (by omega) (fun de => ?_) (fun de => ?_)
      · refine J_aload_n dX5_readToken_66 rfl ?_
        refine J_getR (r := some 1) dX5_readToken_67 fX5_28 s88 (fun _ => rfl) ((xRI).trans (ht)) ?_
        refine J_aload_n dX5_readToken_70 rfl ?_
        refine J_getI dX5_readToken_71 fX5_39 s88 (fun _ => rfl) ?_
        refine J_cvI ((rI_k (by decide)).trans (hI4)) ?_
        refine J_baldN dX5_readToken_74 s1 (by decide) (by omega) ?_
        refine J_cvI ((rI_c (by decide)).trans ((hR1.2.1 _ (by omega)))) ?_
        refine J_cSI (as := [pI (T (rn cBl T n p))]) (st := []) dX5_readToken_75 lX5_65 okX5_isLetter sX5_isLetter rfl rfl (Nat.le_of_ble_eq_true rfl) ⟨Nat.le_of_ble_eq_true rfl, Nat.le_of_ble_eq_true rfl⟩ CR.f (c_X5_isLetter) (fun vq3 gq3 eq3 => ?_)
        obtain ⟨rfl, fq3⟩ := eq3
        rw [fq3]
        refine J_if_eqB dX5_readToken_78 (fun dl => ?_) (fun dl => ?_)
        · refine J_aload_n dX5_readToken_88 rfl ?_
          refine J_getR (r := some 1) dX5_readToken_89 fX5_28 s88 (fun _ => rfl) ((xRI).trans (ht)) ?_
          refine J_aload_n dX5_readToken_92 rfl ?_
          refine J_getI dX5_readToken_93 fX5_39 s88 (fun _ => rfl) ?_
          refine J_cvI ((rI_k (by decide)).trans (hI4)) ?_
          refine J_baldN dX5_readToken_96 s1 (by decide) (by omega) ?_
          refine J_cvI ((rI_c (by decide)).trans ((hR1.2.1 _ (by omega)))) ?_
          refine J_cSI (as := [pI (T (rn cBl T n p))]) (st := []) dX5_readToken_97 lX5_71 okX5_isDigit sX5_isDigit rfl rfl (Nat.le_of_ble_eq_true rfl) ⟨Nat.le_of_ble_eq_true rfl, Nat.le_of_ble_eq_true rfl⟩ CR.f (c_X5_isDigit) (fun vq5 gq5 eq5 => ?_)
          obtain ⟨rfl, fq5⟩ := eq5
          rw [fq5]
          refine J_if_eqB dX5_readToken_100 (fun dd => ?_) (fun dd => ?_)
          · refine J_aload_n dX5_readToken_110 rfl ?_
            refine J_aload_n dX5_readToken_111 rfl ?_
            refine J_getR (r := some 1) dX5_readToken_112 fX5_28 s88 (fun _ => rfl) ((xRI).trans (ht)) ?_
            refine J_aload_n dX5_readToken_115 rfl ?_
            refine J_getI dX5_readToken_116 fX5_39 s88 (fun _ => rfl) ?_
            refine J_cvI ((rI_k (by decide)).trans (hI4)) ?_
            refine J_baldN dX5_readToken_119 s1 (by decide) (by omega) ?_
            refine J_cvI ((rI_c (by decide)).trans ((hR1.2.1 _ (by omega)))) ?_
            refine J_bipush (x := nI 59) dX5_readToken_120 (by decide) ?_
            refine J_icmp_ne dX5_readToken_122 (fun ds => ?_) (fun ds => ?_)
            · refine J_iconstN (n := 1) dX5_readToken_130 ?_
              refine J_putI dX5_readToken_131 fX5_55 s88 rfl (vp_nar_int _) rfl (fun _ _ => rfl) ?_
              refine J_aload_n dX5_readToken_134 rfl ?_
              refine J_dup dX5_readToken_135 rfl ?_
              refine J_getI dX5_readToken_136 fX5_39 s88 (fun _ => rfl) ?_
              refine J_cvI ((rI_k (by decide)).trans ((rI_k (by decide)).trans (hI4))) ?_
              refine J_iconstN (n := 1) dX5_readToken_139 ?_
              refine J_iaddN dX5_readToken_140 ?_
              refine J_putI dX5_readToken_141 fX5_39 s88 rfl (vp_nar_int _) rfl (fun _ _ => rfl) ?_
              exact J_retV dX5_readToken_144 rfl ⟨((hI5.d.tr (Rd.s (by omega))).tr (Rd.s (by omega))).tr (Rd.s (by omega)), (rI_k (by decide)).trans ((rI_k (by decide)).trans rI_s), rI_s.trans (by rw [(tk_semi (by omega) dl dd).1]), ((rI_k (by decide)).trans rI_s).trans (by rw [(tk_semi (by omega) dl dd).2.1, if_neg ds]), fun z => absurd z (tk_semi (by omega) dl dd).2.2⟩
            · refine J_bipush (x := nI 59) dX5_readToken_125 (by decide) ?_
              refine J_goto dX5_readToken_127 ?_
              refine J_putI dX5_readToken_131 fX5_55 s88 rfl (vp_nar_int _) rfl (fun _ _ => rfl) ?_
              refine J_aload_n dX5_readToken_134 rfl ?_
              refine J_dup dX5_readToken_135 rfl ?_
              refine J_getI dX5_readToken_136 fX5_39 s88 (fun _ => rfl) ?_
              refine J_cvI ((rI_k (by decide)).trans ((rI_k (by decide)).trans (hI4))) ?_
              refine J_iconstN (n := 1) dX5_readToken_139 ?_
              refine J_iaddN dX5_readToken_140 ?_
              refine J_putI dX5_readToken_141 fX5_39 s88 rfl (vp_nar_int _) rfl (fun _ _ => rfl) ?_
              exact J_retV dX5_readToken_144 rfl ⟨((hI5.d.tr (Rd.s (by omega))).tr (Rd.s (by omega))).tr (Rd.s (by omega)), (rI_k (by decide)).trans ((rI_k (by decide)).trans rI_s), rI_s.trans (by rw [(tk_semi (by omega) dl dd).1]), ((rI_k (by decide)).trans rI_s).trans (by rw [(tk_semi (by omega) dl dd).2.1, if_pos ds]), fun z => absurd z (tk_semi (by omega) dl dd).2.2⟩
          · refine J_aload_n dX5_readToken_103 rfl ?_
            have F7 : Rd h (sI h1 88 7 (nI (rn cBl T n p))) := hI5.d.tr (Rd.s (by omega))
            refine J_cVV (ci := 5) (c := 88) (as := []) (st := []) dX5_readToken_104 lX5_74 okX5_readNumber vX5_readNumber s88 (by decide) rfl rfl rfl (Nat.le_of_ble_eq_true rfl) ⟨Nat.le_of_ble_eq_true rfl, Nat.le_of_ble_eq_true rfl⟩ CR.f (c_X5_readNumber (s := rn cBl T n p) hG (hR.rd F7) ((rI_k (by decide)).trans hI4) rI_s (by omega)) (fun g2 e2 => ?_)
            obtain ⟨f2, y4, y6, y8⟩ := e2
            refine J_goto dX5_readToken_107 ?_
            exact J_retV dX5_readToken_144 rfl ⟨F7.tr f2.d, (f2.2 7 (by decide) (by decide) (by decide)).trans rI_s, y4.trans (by rw [(tk_num (by omega) dl dd).1]), y6.trans (tk_num (by omega) dl dd).2.1.symm, fun z => y8.trans (by rw [(tk_num (by omega) dl dd).2.2 z])⟩
        · refine J_aload_n dX5_readToken_81 rfl ?_
          have F7 : Rd h (sI h1 88 7 (nI (rn cBl T n p))) := hI5.d.tr (Rd.s (by omega))
          refine J_cVV (ci := 5) (c := 88) (as := []) (st := []) dX5_readToken_82 lX5_68 okX5_readWord vX5_readWord s88 (by decide) rfl rfl rfl (Nat.le_of_ble_eq_true rfl) ⟨Nat.le_of_ble_eq_true rfl, Nat.le_of_ble_eq_true rfl⟩ CR.f (c_X5_readWord (s := rn cBl T n p) hG (hR.rd F7) ((rI_k (by decide)).trans hI4) rI_s (by omega)) (fun g2 e2 => ?_)
          obtain ⟨f2, y4, y6⟩ := e2
          refine J_goto dX5_readToken_85 ?_
          exact J_retV dX5_readToken_144 rfl ⟨F7.tr f2.d, (f2.2 7 (by decide) (by decide) (by decide)).trans rI_s, y4.trans (by rw [(tk_word (by omega) dl).1]), y6.trans (tk_word (by omega) dl).2.1.symm, fun z => absurd z (tk_word (by omega) dl).2.2⟩
      · refine J_aload_n dX5_readToken_58 rfl ?_
        refine J_iconstN (n := 0) dX5_readToken_59 ?_
        refine J_putI dX5_readToken_60 fX5_55 s88 rfl (vp_nar_int _) rfl (fun _ _ => rfl) ?_
        refine J_goto dX5_readToken_63 ?_
        exact J_retV dX5_readToken_144 rfl ⟨(hI5.d.tr (Rd.s (by omega))).tr (Rd.s (by omega)), (rI_k (by decide)).trans rI_s, ((rI_k (by decide)).trans ((rI_k (by decide)).trans hI4)).trans (by rw [(tk_end (by omega)).1]), rI_s.trans (tk_end (by omega)).2.1.symm, fun z => absurd z (tk_end (by omega)).2.2⟩
    · refine J_aload_n dX5_readToken_11 rfl ?_
      refine J_getR (r := some 1) dX5_readToken_12 fX5_28 s88 (fun _ => rfl) (ht) ?_
      refine J_aload_n dX5_readToken_15 rfl ?_
      refine J_getI dX5_readToken_16 fX5_39 s88 (fun _ => rfl) ?_
      refine J_cvI (hI4) ?_
      refine J_baldN dX5_readToken_19 s1 (by decide) (by omega) ?_
      refine J_cvI ((hR1.2.1 _ (by omega))) ?_
      refine J_cSI (as := [pI (T (rn cBl T n p))]) (st := []) dX5_readToken_20 lX5_61 okX5_isBlank sX5_isBlank rfl rfl (Nat.le_of_ble_eq_true rfl) ⟨Nat.le_of_ble_eq_true rfl, Nat.le_of_ble_eq_true rfl⟩ CR.f (c_X5_isBlank) (fun vq8 gq8 eq8 => ?_)
      obtain ⟨rfl, fq8⟩ := eq8
      rw [fq8]
      refine J_if_eqB dX5_readToken_23 (fun c9 => ?_) (fun c9 => ?_)
      · refine J_aload_n dX5_readToken_39 rfl ?_
        refine J_aload_n dX5_readToken_40 rfl ?_
        refine J_getI dX5_readToken_41 fX5_39 s88 (fun _ => rfl) ?_
        refine J_cvI (hI4) ?_
        refine J_putI dX5_readToken_44 fX5_52 s88 rfl (vp_nar_int _) rfl (fun _ _ => rfl) ?_
        refine J_aload_n dX5_readToken_47 rfl ?_
        refine J_getI dX5_readToken_48 fX5_39 s88 (fun _ => rfl) ?_
        refine J_cvI ((rI_k (by decide)).trans (hI4)) ?_
        refine J_aload_n dX5_readToken_51 rfl ?_
        refine J_getI dX5_readToken_52 fX5_32 s88 (fun _ => rfl) ?_
        refine J_cvI ((rI_k (by decide)).trans (hR1.2.2.1)) ?_
        refine J_icmp_ltN dX5_readToken_55 (by omega) (by omega) (fun de => ?_) (fun de => ?_)
        · refine J_aload_n dX5_readToken_66 rfl ?_
          refine J_getR (r := some 1) dX5_readToken_67 fX5_28 s88 (fun _ => rfl) ((xRI).trans (ht)) ?_
          refine J_aload_n dX5_readToken_70 rfl ?_
          refine J_getI dX5_readToken_71 fX5_39 s88 (fun _ => rfl) ?_
          refine J_cvI ((rI_k (by decide)).trans (hI4)) ?_
          refine J_baldN dX5_readToken_74 s1 (by decide) (by omega) ?_
          refine J_cvI ((rI_c (by decide)).trans ((hR1.2.1 _ (by omega)))) ?_
          refine J_cSI (as := [pI (T (rn cBl T n p))]) (st := []) dX5_readToken_75 lX5_65 okX5_isLetter sX5_isLetter rfl rfl (Nat.le_of_ble_eq_true rfl) ⟨Nat.le_of_ble_eq_true rfl, Nat.le_of_ble_eq_true rfl⟩ CR.f (c_X5_isLetter) (fun vq11 gq11 eq11 => ?_)
          obtain ⟨rfl, fq11⟩ := eq11
          rw [fq11]
          refine J_if_eqB dX5_readToken_78 (fun dl => ?_) (fun dl => ?_)
          · refine J_aload_n dX5_readToken_88 rfl ?_
            refine J_getR (r := some 1) dX5_readToken_89 fX5_28 s88 (fun _ => rfl) ((xRI).trans (ht)) ?_
            refine J_aload_n dX5_readToken_92 rfl ?_
            refine J_getI dX5_readToken_93 fX5_39 s88 (fun _ => rfl) ?_
            refine J_cvI ((rI_k (by decide)).trans (hI4)) ?_
            refine J_baldN dX5_readToken_96 s1 (by decide) (by omega) ?_
            refine J_cvI ((rI_c (by decide)).trans ((hR1.2.1 _ (by omega)))) ?_
            refine J_cSI (as := [pI (T (rn cBl T n p))]) (st := []) dX5_readToken_97 lX5_71 okX5_isDigit sX5_isDigit rfl rfl (Nat.le_of_ble_eq_true rfl) ⟨Nat.le_of_ble_eq_true rfl, Nat.le_of_ble_eq_true rfl⟩ CR.f (c_X5_isDigit) (fun vq13 gq13 eq13 => ?_)
            obtain ⟨rfl, fq13⟩ := eq13
            rw [fq13]
            refine J_if_eqB dX5_readToken_100 (fun dd => ?_) (fun dd => ?_)
            · refine J_aload_n dX5_readToken_110 rfl ?_
              refine J_aload_n dX5_readToken_111 rfl ?_
              refine J_getR (r := some 1) dX5_readToken_112 fX5_28 s88 (fun _ => rfl) ((xRI).trans (ht)) ?_
              refine J_aload_n dX5_readToken_115 rfl ?_
              refine J_getI dX5_readToken_116 fX5_39 s88 (fun _ => rfl) ?_
              refine J_cvI ((rI_k (by decide)).trans (hI4)) ?_
              refine J_baldN dX5_readToken_119 s1 (by decide) (by omega) ?_
              refine J_cvI ((rI_c (by decide)).trans ((hR1.2.1 _ (by omega)))) ?_
              refine J_bipush (x := nI 59) dX5_readToken_120 (by decide) ?_
              refine J_icmp_ne dX5_readToken_122 (fun ds => ?_) (fun ds => ?_)
              · refine J_iconstN (n := 1) dX5_readToken_130 ?_
                refine J_putI dX5_readToken_131 fX5_55 s88 rfl (vp_nar_int _) rfl (fun _ _ => rfl) ?_
                refine J_aload_n dX5_readToken_134 rfl ?_
                refine J_dup dX5_readToken_135 rfl ?_
                refine J_getI dX5_readToken_136 fX5_39 s88 (fun _ => rfl) ?_
                refine J_cvI ((rI_k (by decide)).trans ((rI_k (by decide)).trans (hI4))) ?_
                refine J_iconstN (n := 1) dX5_readToken_139 ?_
                refine J_iaddN dX5_readToken_140 ?_
                refine J_putI dX5_readToken_141 fX5_39 s88 rfl (vp_nar_int _) rfl (fun _ _ => rfl) ?_
                exact J_retV dX5_readToken_144 rfl ⟨((hI5.d.tr (Rd.s (by omega))).tr (Rd.s (by omega))).tr (Rd.s (by omega)), (rI_k (by decide)).trans ((rI_k (by decide)).trans rI_s), rI_s.trans (by rw [(tk_semi (by omega) dl dd).1]), ((rI_k (by decide)).trans rI_s).trans (by rw [(tk_semi (by omega) dl dd).2.1, if_neg ds]), fun z => absurd z (tk_semi (by omega) dl dd).2.2⟩
              · refine J_bipush (x := nI 59) dX5_readToken_125 (by decide) ?_
                refine J_goto dX5_readToken_127 ?_
                refine J_putI dX5_readToken_131 fX5_55 s88 rfl (vp_nar_int _) rfl (fun _ _ => rfl) ?_
                refine J_aload_n dX5_readToken_134 rfl ?_
                refine J_dup dX5_readToken_135 rfl ?_
                refine J_getI dX5_readToken_136 fX5_39 s88 (fun _ => rfl) ?_
                refine J_cvI ((rI_k (by decide)).trans ((rI_k (by decide)).trans (hI4))) ?_
                refine J_iconstN (n := 1) dX5_readToken_139 ?_
                refine J_iaddN dX5_readToken_140 ?_
                refine J_putI dX5_readToken_141 fX5_39 s88 rfl (vp_nar_int _) rfl (fun _ _ => rfl) ?_
                exact J_retV dX5_readToken_144 rfl ⟨((hI5.d.tr (Rd.s (by omega))).tr (Rd.s (by omega))).tr (Rd.s (by omega)), (rI_k (by decide)).trans ((rI_k (by decide)).trans rI_s), rI_s.trans (by rw [(tk_semi (by omega) dl dd).1]), ((rI_k (by decide)).trans rI_s).trans (by rw [(tk_semi (by omega) dl dd).2.1, if_pos ds]), fun z => absurd z (tk_semi (by omega) dl dd).2.2⟩
            · refine J_aload_n dX5_readToken_103 rfl ?_
              have F7 : Rd h (sI h1 88 7 (nI (rn cBl T n p))) := hI5.d.tr (Rd.s (by omega))
              refine J_cVV (ci := 5) (c := 88) (as := []) (st := []) dX5_readToken_104 lX5_74 okX5_readNumber vX5_readNumber s88 (by decide) rfl rfl rfl (Nat.le_of_ble_eq_true rfl) ⟨Nat.le_of_ble_eq_true rfl, Nat.le_of_ble_eq_true rfl⟩ CR.f (c_X5_readNumber (s := rn cBl T n p) hG (hR.rd F7) ((rI_k (by decide)).trans hI4) rI_s (by omega)) (fun g2 e2 => ?_)
              obtain ⟨f2, y4, y6, y8⟩ := e2
              refine J_goto dX5_readToken_107 ?_
              exact J_retV dX5_readToken_144 rfl ⟨F7.tr f2.d, (f2.2 7 (by decide) (by decide) (by decide)).trans rI_s, y4.trans (by rw [(tk_num (by omega) dl dd).1]), y6.trans (tk_num (by omega) dl dd).2.1.symm, fun z => y8.trans (by rw [(tk_num (by omega) dl dd).2.2 z])⟩
          · refine J_aload_n dX5_readToken_81 rfl ?_
            have F7 : Rd h (sI h1 88 7 (nI (rn cBl T n p))) := hI5.d.tr (Rd.s (by omega))
            refine J_cVV (ci := 5) (c := 88) (as := []) (st := []) dX5_readToken_82 lX5_68 okX5_readWord vX5_readWord s88 (by decide) rfl rfl rfl (Nat.le_of_ble_eq_true rfl) ⟨Nat.le_of_ble_eq_true rfl, Nat.le_of_ble_eq_true rfl⟩ CR.f (c_X5_readWord (s := rn cBl T n p) hG (hR.rd F7) ((rI_k (by decide)).trans hI4) rI_s (by omega)) (fun g2 e2 => ?_)
            obtain ⟨f2, y4, y6⟩ := e2
            refine J_goto dX5_readToken_85 ?_
            exact J_retV dX5_readToken_144 rfl ⟨F7.tr f2.d, (f2.2 7 (by decide) (by decide) (by decide)).trans rI_s, y4.trans (by rw [(tk_word (by omega) dl).1]), y6.trans (tk_word (by omega) dl).2.1.symm, fun z => absurd z (tk_word (by omega) dl).2.2⟩
        · refine J_aload_n dX5_readToken_58 rfl ?_
          refine J_iconstN (n := 0) dX5_readToken_59 ?_
          refine J_putI dX5_readToken_60 fX5_55 s88 rfl (vp_nar_int _) rfl (fun _ _ => rfl) ?_
          refine J_goto dX5_readToken_63 ?_
          exact J_retV dX5_readToken_144 rfl ⟨(hI5.d.tr (Rd.s (by omega))).tr (Rd.s (by omega)), (rI_k (by decide)).trans rI_s, ((rI_k (by decide)).trans ((rI_k (by decide)).trans hI4)).trans (by rw [(tk_end (by omega)).1]), rI_s.trans (tk_end (by omega)).2.1.symm, fun z => absurd z (tk_end (by omega)).2.2⟩
      · exact absurd ⟨by omega, c9⟩ ho
  · show J _ _ _ _ _ [some (pR (some 88))] _ _ h1
    obtain ⟨hI4, hI5⟩ := hI1
    have hR1 := hR.rd hI5.d
    have ht := hR1.1
    have hG := hI5.1.g hG0
    have hn9 := hR1.2.2.2
    have hin := rn_in (c := cBl) (T := T) (n := n) (p := p) (j := p + i1) (by omega) (by omega)
    have hin1 := hin.1
    refine J_aload_n dX5_readToken_0 rfl ?_
    refine J_getI dX5_readToken_1 fX5_39 s88 (fun _ => rfl) ?_
    refine J_cvI (hI4) ?_
    refine J_aload_n dX5_readToken_4 rfl ?_
    refine J_getI dX5_readToken_5 fX5_32 s88 (fun _ => rfl) ?_
    refine J_cvI (hR1.2.2.1) ?_
    refine J_icmp_geN dX5_readToken_8 (by omega) (by omega) (fun c16 => ?_) (fun c16 => ?_)
    · exact (show False by omega).elim
    · refine J_aload_n dX5_readToken_11 rfl ?_
      refine J_getR (r := some 1) dX5_readToken_12 fX5_28 s88 (fun _ => rfl) (ht) ?_
      refine J_aload_n dX5_readToken_15 rfl ?_
      refine J_getI dX5_readToken_16 fX5_39 s88 (fun _ => rfl) ?_
      refine J_cvI (hI4) ?_
      refine J_baldN dX5_readToken_19 s1 (by decide) (by omega) ?_
      refine J_cvI ((hR1.2.1 _ (by omega))) ?_
      refine J_cSI (as := [pI (T (p + i1))]) (st := []) dX5_readToken_20 lX5_61 okX5_isBlank sX5_isBlank rfl rfl (Nat.le_of_ble_eq_true rfl) ⟨Nat.le_of_ble_eq_true rfl, Nat.le_of_ble_eq_true rfl⟩ CR.f (c_X5_isBlank) (fun vq17 gq17 eq17 => ?_)
      obtain ⟨rfl, fq17⟩ := eq17
      rw [fq17]
      refine J_if_eqB dX5_readToken_23 (fun c18 => ?_) (fun c18 => ?_)
      · exact absurd hin.2 c18
      · refine J_aload_n dX5_readToken_26 rfl ?_
        refine J_dup dX5_readToken_27 rfl ?_
        refine J_getI dX5_readToken_28 fX5_39 s88 (fun _ => rfl) ?_
        refine J_cvI (hI4) ?_
        refine J_iconstN (n := 1) dX5_readToken_31 ?_
        refine J_iaddN dX5_readToken_32 ?_
        refine J_putI dX5_readToken_33 fX5_39 s88 rfl (vp_nar_int _) rfl (fun _ _ => rfl) ?_
        refine J_goto dX5_readToken_36 ?_
        exact ih1 () _ ⟨rI_s, hI5.tr (Rw.s (by omega))⟩
