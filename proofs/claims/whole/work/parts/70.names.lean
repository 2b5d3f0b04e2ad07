/-! ===== names: the class ===== -/
theorem fdN_s {g : Nat → Nat} {V c : Nat} (h : fdN g V c = 0) : fdN g V (c + 1) = if g c = V then c + 1 else 0 := by
  show (if fdN g V c ≠ 0 then _ else _) = _
  rw [if_neg (by omega)]
theorem fdN_mo {g : Nat → Nat} {V : Nat} : ∀ k e, fdN g V k ≠ 0 → fdN g V (k + e) = fdN g V k
  | _, 0, _ => rfl
  | k, e + 1, h => by
    have z := fdN_mo (g := g) (V := V) k e h
    show (if fdN g V (k + e) ≠ 0 then fdN g V (k + e) else _) = _
    rw [if_pos (by rw [z]; exact h), z]
theorem fdN_h {g : Nat → Nat} {V k c : Nat} (hk : k < c) (h0 : fdN g V k = 0) (h : g k = V) : fdN g V c = k + 1 := by
  have e := fdN_s h0
  rw [if_pos h] at e
  have z := fdN_mo (g := g) (V := V) (k + 1) (c - (k + 1)) (by omega)
  rw [show k + 1 + (c - (k + 1)) = c by omega] at z
  exact z.trans e
theorem cnt_b {S : PS} {b k : Nat} (hO : OkS S b) : cntP S.1 k ≤ 6 := by
  obtain ⟨⟨-, -, w4, t4, f6, b5⟩, -⟩ := id hO.1
  unfold cntP
  (repeat' split) <;> omega
theorem look_out {k : Nat} (hk : k < 7) (h4 : ¬ k = 4) (h5 : ¬ k = 5) : Op.lookupswitch.offset [(4, 28), (5, 48)] 68 (nI k).toInt = 68 := by
  have z : k = 0 ∨ k = 1 ∨ k = 2 ∨ k = 3 ∨ k = 6 := by omega
  rcases z with rfl | rfl | rfl | rfl | rfl <;> rfl
theorem c_X5_toldOf {h : PH} {T : Nat → Int32} {d k b : Nat} {S : PS} (hG : GR h.2.2) (hk : k < 7) (hS : Rp h d T S) (hO : OkS S b) : CtI mX5_toldOf h [pR (some 88), pI (nI k)] (fun v h' => v = nI (cntP S.1 k) ∧ h' = h) := by
  obtain ⟨⟨-, -, w4, t4, f6, b5⟩, -, -, -, -, -, g2, g3, g4⟩ := id hO.1
  have b9 := hO.2
  refine Ct.of (L := [some (pR (some 88)), some (pI (nI k))]) rfl rfl (Nat.le_of_ble_eq_true rfl) rfl ?_
  refine J_iload_n dX5_toldOf_0 rfl ?_
  refine J_iconstN (n := 2) dX5_toldOf_1 ?_
  refine J_icmp_neN dX5_toldOf_2 (by omega) (by omega) (fun c1 => ?_) (fun c1 => ?_)
  · refine J_iload_n dX5_toldOf_13 rfl ?_
    refine J_iconstN (n := 3) dX5_toldOf_14 ?_
    refine J_icmp_neN dX5_toldOf_15 (by omega) (by omega) (fun c2 => ?_) (fun c2 => ?_)
    · refine J_aload_n dX5_toldOf_28 rfl ?_
      refine J_getR (r := some d) dX5_toldOf_29 fX5_35 s88 (fun _ => rfl) (hS.1.2) ?_
      refine J_getI dX5_toldOf_32 fX5_114 hS.1.1.s (fun _ => rfl) ?_
      refine J_cvI (hS.2.1.1.2.2.2.2.2) ?_
      exact J_retI dX5_toldOf_35 rfl ⟨by unfold cntP; first | rw [if_pos (by omega)] | rw [if_neg (by omega), if_pos (by omega)] | rw [if_neg (by omega), if_neg (by omega)], rfl⟩
    · refine J_aload_n dX5_toldOf_18 rfl ?_
      refine J_getR (r := some d) dX5_toldOf_19 fX5_35 s88 (fun _ => rfl) (hS.1.2) ?_
      refine J_getI dX5_toldOf_22 fX5_111 hS.1.1.s (fun _ => rfl) ?_
      refine J_cvI (hS.2.1.1.2.2.2.2.1) ?_
      refine J_goto dX5_toldOf_25 ?_
      exact J_retI dX5_toldOf_35 rfl ⟨by unfold cntP; first | rw [if_pos (by omega)] | rw [if_neg (by omega), if_pos (by omega)] | rw [if_neg (by omega), if_neg (by omega)], rfl⟩
  · refine J_aload_n dX5_toldOf_5 rfl ?_
    refine J_getR (r := some d) dX5_toldOf_6 fX5_35 s88 (fun _ => rfl) (hS.1.2) ?_
    refine J_getI dX5_toldOf_9 fX5_108 hS.1.1.s (fun _ => rfl) ?_
    refine J_cvI (hS.2.1.1.2.2.2.1) ?_
    exact J_retI dX5_toldOf_12 rfl ⟨by unfold cntP; first | rw [if_pos (by omega)] | rw [if_neg (by omega), if_pos (by omega)] | rw [if_neg (by omega), if_neg (by omega)], rfl⟩
theorem c_X5_isNameToken {h : PH} {T : Nat → Int32} {n s k i d b : Nat} {S : PS} (hG : GR h.2.2) (hR : Rt h T n) (hT : Tk h T n s) (hs : s ≤ n) (hk : k = 2 ∨ k = 3 ∨ k = 6) (hi : i < cntP S.1 k) (hK : tkK T n s = 2) (hS : Rp h d T S) (hO : OkS S b) : CtI mX5_isNameToken h [pR (some 88), pI (nI (k * 6 + i))] (fun v h' => v = bI (S.2.1 k i = tkV T n s) ∧ h' = h) := by
  have hn9 := hR.2.2.2
  have hge := tkE_ge (T := T) (n := n) (s := s)
  have hle := tkE_le (T := T) hs
  have ht := hR.1
  obtain ⟨⟨-, -, w4, t4, f6, b5⟩, -, -, -, -, -, g2, g3, g4⟩ := id hO.1
  have b9 := hO.2
  have hcb := cnt_b (k := k) hO
  have h42 : k * 6 + i < 42 := by omega
  obtain ⟨a, l, ea, el, hal, hv, hll⟩ := hS.2.2.2.2.2 k hk i hi
  have hkw : S.2.1 k i = tkV T n s ↔ l = tkE T n s - s ∧ ∀ j, j < l → T (a + j) = T (s + j) := by
    rw [← hv, tkV_w hK]
    exact wv_inj _ _ hll (tk_let hK).2.2
  refine Ct.of (L := [some (pR (some 88)), some (pI (nI (k * 6 + i))), none]) rfl rfl (Nat.le_of_ble_eq_true rfl) rfl ?_
  refine J_aload_n dX5_isNameToken_0 rfl ?_
  refine J_getR (r := some 91) dX5_isNameToken_1 fX5_25 s88 (fun _ => rfl) (g88_13 hG) ?_
  refine J_iload_n dX5_isNameToken_4 rfl ?_
  refine J_ialdN dX5_isNameToken_5 s91 (by decide) (by omega) ?_
  refine J_cvI (el) ?_
  refine J_aload_n dX5_isNameToken_6 rfl ?_
  refine J_getI dX5_isNameToken_7 fX5_39 s88 (fun _ => rfl) ?_
  refine J_cvI (hT.2.1) ?_
  refine J_aload_n dX5_isNameToken_10 rfl ?_
  refine J_getI dX5_isNameToken_11 fX5_52 s88 (fun _ => rfl) ?_
  refine J_cvI (hT.1) ?_
  refine J_isubN dX5_isNameToken_14 (by omega) ?_
  refine J_icmp_eqN dX5_isNameToken_15 (by omega) (by omega) (fun d1 => ?_) (fun d1 => ?_)
  · refine J_iconstN (n := 0) dX5_isNameToken_20 ?_
    refine J_istore_n (L' := [some (pR (some 88)), some (pI (nI (k * 6 + i))), some (pI (nI 0))]) dX5_isNameToken_21 (by decide) rfl ?_
    refine J_L (L' := [some (pR (some 88)), some (pI (nI (k * 6 + i))), some (pI (nI 0))]) rfl ?_
    refine J_forI (α := Unit) (L := fun i1 aa1 => [some (pR (some 88)), some (pI (nI (k * 6 + i))), some (pI (nI i1))]) (fun i1 aa1 h1 => h = h1 ∧ ∀ j, j < i1 → T (a + j) = T (s + j)) (e := l) (fun aa1 h1 hI1 => ?_) (fun i1 aa1 h1 hi1 hI1 ih1 => ?_) 0 (()) _ (by omega) (⟨rfl, fun j hj => absurd hj (Nat.not_lt_zero j)⟩)
    · show J _ _ _ _ _ [some (pR (some 88)), some (pI (nI (k * 6 + i))), some (pI (nI l))] _ _ h1
      obtain ⟨rfl, hJ⟩ := hI1
      refine J_iload_n dX5_isNameToken_22 rfl ?_
      refine J_aload_n dX5_isNameToken_23 rfl ?_
      refine J_getR (r := some 91) dX5_isNameToken_24 fX5_25 s88 (fun _ => rfl) (g88_13 hG) ?_
      refine J_iload_n dX5_isNameToken_27 rfl ?_
      refine J_ialdN dX5_isNameToken_28 s91 (by decide) (by omega) ?_
      refine J_cvI (el) ?_
      refine J_icmp_geN dX5_isNameToken_29 (by omega) (by omega) (fun c2 => ?_) (fun c2 => ?_)
      · refine J_iconstN (n := 1) dX5_isNameToken_67 ?_
        exact J_retZ dX5_isNameToken_68 rfl rfl ⟨bI_t (hkw.mpr ⟨by omega, hJ⟩), rfl⟩
      · exact (show False by omega).elim
    · show J _ _ _ _ _ [some (pR (some 88)), some (pI (nI (k * 6 + i))), some (pI (nI i1))] _ _ h1
      obtain ⟨rfl, hJ⟩ := hI1
      refine J_iload_n dX5_isNameToken_22 rfl ?_
      refine J_aload_n dX5_isNameToken_23 rfl ?_
      refine J_getR (r := some 91) dX5_isNameToken_24 fX5_25 s88 (fun _ => rfl) (g88_13 hG) ?_
      refine J_iload_n dX5_isNameToken_27 rfl ?_
      refine J_ialdN dX5_isNameToken_28 s91 (by decide) (by omega) ?_
      refine J_cvI (el) ?_
      refine J_icmp_geN dX5_isNameToken_29 (by omega) (by omega) (fun c3 => ?_) (fun c3 => ?_)
      · exact (show False by omega).elim
      · refine J_aload_n dX5_isNameToken_32 rfl ?_
        refine J_getR (r := some 1) dX5_isNameToken_33 fX5_28 s88 (fun _ => rfl) (ht) ?_
        refine J_aload_n dX5_isNameToken_36 rfl ?_
        refine J_getR (r := some 90) dX5_isNameToken_37 fX5_22 s88 (fun _ => rfl) (g88_12 hG) ?_
        refine J_iload_n dX5_isNameToken_40 rfl ?_
        refine J_ialdN dX5_isNameToken_41 s90 (by decide) (by omega) ?_
        refine J_cvI (ea) ?_
        refine J_iload_n dX5_isNameToken_42 rfl ?_
        refine J_iaddN dX5_isNameToken_43 ?_
        refine J_baldN dX5_isNameToken_44 s1 (by decide) (by omega) ?_
        refine J_cvI ((hR.2.1 _ (by omega))) ?_
        refine J_aload_n dX5_isNameToken_45 rfl ?_
        refine J_getR (r := some 1) dX5_isNameToken_46 fX5_28 s88 (fun _ => rfl) (ht) ?_
        refine J_aload_n dX5_isNameToken_49 rfl ?_
        refine J_getI dX5_isNameToken_50 fX5_52 s88 (fun _ => rfl) ?_
        refine J_cvI (hT.1) ?_
        refine J_iload_n dX5_isNameToken_53 rfl ?_
        refine J_iaddN dX5_isNameToken_54 ?_
        refine J_baldN dX5_isNameToken_55 s1 (by decide) (by omega) ?_
        refine J_cvI ((hR.2.1 _ (by omega))) ?_
        refine J_icmp_eq dX5_isNameToken_56 (fun dc => ?_) (fun dc => ?_)
        · refine J_iincN (n := 1) (L' := [some (pR (some 88)), some (pI (nI (k * 6 + i))), some (pI (nI (i1 + 1)))]) dX5_isNameToken_61 rfl (by decide) rfl ?_
          refine J_goto dX5_isNameToken_64 ?_
          exact ih1 () _ ⟨rfl, fun j hj => (Nat.lt_or_ge j i1).elim (hJ j) (fun z => (by rw [show j = i1 by omega]; exact dc))⟩
        · refine J_iconstN (n := 0) dX5_isNameToken_59 ?_
          exact J_retZ dX5_isNameToken_60 rfl rfl ⟨bI_f (fun y => dc ((hkw.mp y).2 i1 (by omega))), rfl⟩
  · refine J_iconstN (n := 0) dX5_isNameToken_18 ?_
    exact J_retZ dX5_isNameToken_19 rfl rfl ⟨bI_f (fun y => d1 ((hkw.mp y).1)), rfl⟩
theorem c_X5_numberNamed {h : PH} {T : Nat → Int32} {n s k d b : Nat} {S : PS} (hG : GR h.2.2) (hR : Rt h T n) (hT : Tk h T n s) (hs : s ≤ n) (hk : k = 2 ∨ k = 3 ∨ k = 6) (hK : tkK T n s = 2) (hS : Rp h d T S) (hO : OkS S b) : CtI mX5_numberNamed h [pR (some 88), pI (nI k)] (fun v h' => v = hlp (fdN (S.2.1 k) (tkV T n s) (cntP S.1 k)) ∧ h' = h) := by
  have hn9 := hR.2.2.2
  have hge := tkE_ge (T := T) (n := n) (s := s)
  have hle := tkE_le (T := T) hs
  have ht := hR.1
  obtain ⟨⟨-, -, w4, t4, f6, b5⟩, -, -, -, -, -, g2, g3, g4⟩ := id hO.1
  have b9 := hO.2
  have hcb := cnt_b (k := k) hO
  refine Ct.of (L := [some (pR (some 88)), some (pI (nI k)), none, none]) rfl rfl (Nat.le_of_ble_eq_true rfl) rfl ?_
  refine J_aload_n dX5_numberNamed_0 rfl ?_
  refine J_iload_n dX5_numberNamed_1 rfl ?_
  refine J_cVI (ci := 5) (c := 88) (as := [pI (nI k)]) (st := []) dX5_numberNamed_2 lX5_209 okX5_toldOf vX5_toldOf s88 (by decide) rfl rfl rfl (Nat.le_of_ble_eq_true rfl) ⟨Nat.le_of_ble_eq_true rfl, Nat.le_of_ble_eq_true rfl⟩ CR.f (c_X5_toldOf hG (by omega) hS hO) (fun vq1 gq1 eq1 => ?_)
  rw [eq1.2, eq1.1]
  refine J_istore_n (L' := [some (pR (some 88)), some (pI (nI k)), some (pI (nI (cntP S.1 k))), none]) dX5_numberNamed_5 (by decide) rfl ?_
  refine J_iconstN (n := 0) dX5_numberNamed_6 ?_
  refine J_istore_n (L' := [some (pR (some 88)), some (pI (nI k)), some (pI (nI (cntP S.1 k))), some (pI (nI 0))]) dX5_numberNamed_7 (by decide) rfl ?_
  refine J_L (L' := [some (pR (some 88)), some (pI (nI k)), some (pI (nI (cntP S.1 k))), some (pI (nI 0))]) rfl ?_
  refine J_forI (α := Unit) (L := fun i1 aa1 => [some (pR (some 88)), some (pI (nI k)), some (pI (nI (cntP S.1 k))), some (pI (nI i1))]) (fun i1 aa1 h1 => h = h1 ∧ fdN (S.2.1 k) (tkV T n s) i1 = 0) (e := cntP S.1 k) (fun aa1 h1 hI1 => ?_) (fun i1 aa1 h1 hi1 hI1 ih1 => ?_) 0 (()) _ (by omega) (⟨rfl, rfl⟩)
  · show J _ _ _ _ _ [some (pR (some 88)), some (pI (nI k)), some (pI (nI (cntP S.1 k))), some (pI (nI (cntP S.1 k)))] _ _ h1
    obtain ⟨rfl, hJ⟩ := hI1
    refine J_iload_n dX5_numberNamed_8 rfl ?_
    refine J_iload_n dX5_numberNamed_9 rfl ?_
    refine J_icmp_geN dX5_numberNamed_10 (by omega) (by omega) (fun c2 => ?_) (fun c2 => ?_)
    · refine J_iconst (x := -1) dX5_numberNamed_34 (by decide) ?_
      exact J_retI dX5_numberNamed_35 rfl ⟨by rw [hJ]; rfl, rfl⟩
    · exact (show False by omega).elim
  · show J _ _ _ _ _ [some (pR (some 88)), some (pI (nI k)), some (pI (nI (cntP S.1 k))), some (pI (nI i1))] _ _ h1
    obtain ⟨rfl, hJ⟩ := hI1
    refine J_iload_n dX5_numberNamed_8 rfl ?_
    refine J_iload_n dX5_numberNamed_9 rfl ?_
    refine J_icmp_geN dX5_numberNamed_10 (by omega) (by omega) (fun c3 => ?_) (fun c3 => ?_)
    · exact (show False by omega).elim
    · refine J_aload_n dX5_numberNamed_13 rfl ?_
      refine J_iload_n dX5_numberNamed_14 rfl ?_
      refine J_bipush (x := nI 6) dX5_numberNamed_15 (by decide) ?_
      refine J_imulN dX5_numberNamed_17 ?_
      refine J_iload_n dX5_numberNamed_18 rfl ?_
      refine J_iaddN dX5_numberNamed_19 ?_
      refine J_cVI (ci := 5) (c := 88) (as := [pI (nI (k * 6 + i1))]) (st := []) dX5_numberNamed_20 lX5_212 okX5_isNameToken vX5_isNameToken s88 (by decide) rfl rfl rfl (Nat.le_of_ble_eq_true rfl) ⟨Nat.le_of_ble_eq_true rfl, Nat.le_of_ble_eq_true rfl⟩ CR.f (c_X5_isNameToken hG hR hT hs hk (by omega) hK hS hO) (fun vq4 gq4 eq4 => ?_)
      rw [eq4.2, eq4.1]
      refine J_if_eqB dX5_numberNamed_23 (fun dc => ?_) (fun dc => ?_)
      · refine J_iincN (n := 1) (L' := [some (pR (some 88)), some (pI (nI k)), some (pI (nI (cntP S.1 k))), some (pI (nI (i1 + 1)))]) dX5_numberNamed_28 rfl (by decide) rfl ?_
        refine J_goto dX5_numberNamed_31 ?_
        exact ih1 () _ ⟨rfl, (fdN_s hJ).trans (if_neg dc)⟩
      · refine J_iload_n dX5_numberNamed_26 rfl ?_
        exact J_retI dX5_numberNamed_27 rfl ⟨by rw [fdN_h (by omega) hJ dc]; rfl, rfl⟩
theorem c_X5_faultOfKnown {h : PH} {T : Nat → Int32} {n s d b : Nat} {S : PS} (hG : GR h.2.2) (hR : Rt h T n) (hT : Tk h T n s) (hs : s ≤ n) (hK : tkK T n s = 2) (hS : Rp h d T S) (hO : OkS S b) : CtI mX5_faultOfKnown h [pR (some 88), pI (nI 3)] (fun v h' => v = nI (knF (fdN (S.2.1 3) (tkV T n s) (S.1 0 3 0))) ∧ h' = h) := by
  have hn9 := hR.2.2.2
  have hge := tkE_ge (T := T) (n := n) (s := s)
  have hle := tkE_le (T := T) hs
  have ht := hR.1
  obtain ⟨⟨-, -, w4, t4, f6, b5⟩, -, -, -, -, -, g2, g3, g4⟩ := id hO.1
  have b9 := hO.2
  have x2 := fdN_le (g := S.2.1 2) (V := tkV T n s) (S.1 0 2 0)
  have x3 := fdN_le (g := S.2.1 3) (V := tkV T n s) (S.1 0 3 0)
  refine Ct.of (L := [some (pR (some 88)), some (pI (nI 3))]) rfl rfl (Nat.le_of_ble_eq_true rfl) rfl ?_
  refine J_aload_n dX5_faultOfKnown_0 rfl ?_
  refine J_iload_n dX5_faultOfKnown_1 rfl ?_
  refine J_cVI (ci := 5) (c := 88) (as := [pI (nI 3)]) (st := []) dX5_faultOfKnown_2 lX5_194 okX5_numberNamed vX5_numberNamed s88 (by decide) rfl rfl rfl (Nat.le_of_ble_eq_true rfl) ⟨Nat.le_of_ble_eq_true rfl, Nat.le_of_ble_eq_true rfl⟩ CR.f ((show CtI mX5_numberNamed _ [pR (some 88), pI (nI 3)] (fun v h' => v = hlp (fdN (S.2.1 3) (tkV T n s) (S.1 0 3 0)) ∧ h' = _) from c_X5_numberNamed hG hR hT hs (k := 3) (by decide) hK hS hO)) (fun vq1 gq1 eq1 => ?_)
  rw [eq1.2, eq1.1]
  refine J_iconst (x := -1) dX5_faultOfKnown_5 (by decide) ?_
  refine J_icmp_ne dX5_faultOfKnown_6 (fun d1 => ?_) (fun d1 => ?_)
  · refine J_iconstN (n := 0) dX5_faultOfKnown_13 ?_
    exact J_retI dX5_faultOfKnown_14 rfl ⟨by unfold knF; rw [if_neg (fun z => d1 ((hlp_m1 (by omega)).mpr z))], rfl⟩
  · refine J_iconstN (n := 5) dX5_faultOfKnown_9 ?_
    refine J_goto dX5_faultOfKnown_10 ?_
    exact J_retI dX5_faultOfKnown_14 rfl ⟨by unfold knF; rw [if_pos ((hlp_m1 (by omega)).mp d1)], rfl⟩
theorem c_X5_faultOfWantedWinter {h : PH} {T : Nat → Int32} {n s m d b : Nat} {S : PS} (hG : GR h.2.2) (hR : Rt h T n) (hT : Tk h T n s) (hs : s ≤ n) (hK : tkK T n s = 2) (hS : Rp h d T S) (hO : OkS S b) (h0 : h.1 89 0 = nI m) (hm : m < S.1 0 3 0) : CtI mX5_faultOfWantedWinter h [pR (some 88)] (fun v h' => v = nI (if fdN (S.2.1 2) (tkV T n s) (S.1 0 2 0) = 0 then 5 else if S.2.2.2 (4 * m + (fdN (S.2.1 2) (tkV T n s) (S.1 0 2 0) - 1)) = 1 then 3 else 0) ∧ h' = h) := by
  have hn9 := hR.2.2.2
  have hge := tkE_ge (T := T) (n := n) (s := s)
  have hle := tkE_le (T := T) hs
  have ht := hR.1
  obtain ⟨⟨-, -, w4, t4, f6, b5⟩, -, -, -, -, -, g2, g3, g4⟩ := id hO.1
  have b9 := hO.2
  have x2 := fdN_le (g := S.2.1 2) (V := tkV T n s) (S.1 0 2 0)
  have x3 := fdN_le (g := S.2.1 3) (V := tkV T n s) (S.1 0 3 0)
  refine Ct.of (L := [some (pR (some 88)), none]) rfl rfl (Nat.le_of_ble_eq_true rfl) rfl ?_
  refine J_aload_n dX5_faultOfWantedWinter_0 rfl ?_
  refine J_iconstN (n := 2) dX5_faultOfWantedWinter_1 ?_
  refine J_cVI (ci := 5) (c := 88) (as := [pI (nI 2)]) (st := []) dX5_faultOfWantedWinter_2 lX5_194 okX5_numberNamed vX5_numberNamed s88 (by decide) rfl rfl rfl (Nat.le_of_ble_eq_true rfl) ⟨Nat.le_of_ble_eq_true rfl, Nat.le_of_ble_eq_true rfl⟩ CR.f ((show CtI mX5_numberNamed _ [pR (some 88), pI (nI 2)] (fun v h' => v = hlp (fdN (S.2.1 2) (tkV T n s) (S.1 0 2 0)) ∧ h' = _) from c_X5_numberNamed hG hR hT hs (k := 2) (by decide) hK hS hO)) (fun vq1 gq1 eq1 => ?_)
  rw [eq1.2, eq1.1]
  refine J_istore_n (L' := [some (pR (some 88)), some (pI (hlp (fdN (S.2.1 2) (tkV T n s) (S.1 0 2 0))))]) dX5_faultOfWantedWinter_5 (by decide) rfl ?_
  refine J_iload_n dX5_faultOfWantedWinter_6 rfl ?_
  refine J_iconst (x := -1) dX5_faultOfWantedWinter_7 (by decide) ?_
  refine J_icmp_ne dX5_faultOfWantedWinter_8 (fun d1 => ?_) (fun d1 => ?_)
  · have hz : fdN (S.2.1 2) (tkV T n s) (S.1 0 2 0) ≠ 0 := fun y => d1 ((hlp_m1 (by omega)).mpr y)
    refine J_L (L' := [some (pR (some 88)), some (pI (nI (fdN (S.2.1 2) (tkV T n s) (S.1 0 2 0) - 1)))]) (by rw [hlp_p hz]) ?_
    have hf := g4 m hm (fdN (S.2.1 2) (tkV T n s) (S.1 0 2 0) - 1) (by omega)
    refine J_aload_n dX5_faultOfWantedWinter_13 rfl ?_
    refine J_getR (r := some d) dX5_faultOfWantedWinter_14 fX5_35 s88 (fun _ => rfl) (hS.1.2) ?_
    refine J_getR (r := some (d + 7)) dX5_faultOfWantedWinter_17 fX5_197 hS.1.1.s (fun _ => rfl) (hS.1.1.e10 hG) ?_
    refine J_aload_n dX5_faultOfWantedWinter_20 rfl ?_
    refine J_getR (r := some 89) dX5_faultOfWantedWinter_21 fX5_18 s88 (fun _ => rfl) (g88_11 hG) ?_
    refine J_iconstN (n := 0) dX5_faultOfWantedWinter_24 ?_
    refine J_ialdN dX5_faultOfWantedWinter_25 s89 (by decide) (by omega) ?_
    refine J_cvI (h0) ?_
    refine J_aald4N (r := some (d + 9 + 7 * m)) dX5_faultOfWantedWinter_26 hS.1.1.s7 (by decide) (by omega) (hS.1.1.eth hG (by omega)) ?_
    refine J_getR (r := some (d + 9 + 7 * m + 6)) dX5_faultOfWantedWinter_27 fX5_200 (hS.1.1.th (by omega)).s (fun _ => rfl) ((hS.1.1.th (by omega)).e11 hG) ?_
    refine J_iload_n dX5_faultOfWantedWinter_30 rfl ?_
    refine J_zaldN dX5_faultOfWantedWinter_31 (hS.1.1.th (by omega)).s6 (by decide) (by omega) ?_
    refine J_cvI ((hS.2.2.2.1 m hm _ (by omega))) ?_
    refine J_if_eqN dX5_faultOfWantedWinter_32 (by omega) (fun d2 => ?_) (fun d2 => ?_)
    · refine J_iconstN (n := 0) dX5_faultOfWantedWinter_39 ?_
      exact J_retI dX5_faultOfWantedWinter_40 rfl ⟨by rw [if_neg hz, if_neg (by omega)], rfl⟩
    · refine J_iconstN (n := 3) dX5_faultOfWantedWinter_35 ?_
      refine J_goto dX5_faultOfWantedWinter_36 ?_
      exact J_retI dX5_faultOfWantedWinter_40 rfl ⟨by rw [if_neg hz, if_pos (by omega)], rfl⟩
  · refine J_iconstN (n := 5) dX5_faultOfWantedWinter_11 ?_
    exact J_retI dX5_faultOfWantedWinter_12 rfl ⟨by rw [if_pos ((hlp_m1 (by omega)).mp d1)], rfl⟩
theorem c_X5_faultOfHelped {h : PH} {T : Nat → Int32} {n s m d b : Nat} {S : PS} (hG : GR h.2.2) (hR : Rt h T n) (hT : Tk h T n s) (hs : s ≤ n) (hK : tkK T n s = 2) (hS : Rp h d T S) (hO : OkS S b) (h0 : h.1 89 0 = nI m) (hm : m < S.1 0 3 0) : CtI mX5_faultOfHelped h [pR (some 88)] (fun v h' => v = nI (if fdN (S.2.1 3) (tkV T n s) (S.1 0 3 0) = 0 then 5 else if fdN (S.2.1 3) (tkV T n s) (S.1 0 3 0) - 1 = m ∨ S.1 4 (fdN (S.2.1 3) (tkV T n s) (S.1 0 3 0) - 1) 0 ≠ 0 then 3 else 0) ∧ h' = h) := by
  have hn9 := hR.2.2.2
  have hge := tkE_ge (T := T) (n := n) (s := s)
  have hle := tkE_le (T := T) hs
  have ht := hR.1
  obtain ⟨⟨-, -, w4, t4, f6, b5⟩, -, -, -, -, -, g2, g3, g4⟩ := id hO.1
  have b9 := hO.2
  have x2 := fdN_le (g := S.2.1 2) (V := tkV T n s) (S.1 0 2 0)
  have x3 := fdN_le (g := S.2.1 3) (V := tkV T n s) (S.1 0 3 0)
  refine Ct.of (L := [some (pR (some 88)), none, none]) rfl rfl (Nat.le_of_ble_eq_true rfl) rfl ?_
  refine J_aload_n dX5_faultOfHelped_0 rfl ?_
  refine J_iconstN (n := 3) dX5_faultOfHelped_1 ?_
  refine J_cVI (ci := 5) (c := 88) (as := [pI (nI 3)]) (st := []) dX5_faultOfHelped_2 lX5_194 okX5_numberNamed vX5_numberNamed s88 (by decide) rfl rfl rfl (Nat.le_of_ble_eq_true rfl) ⟨Nat.le_of_ble_eq_true rfl, Nat.le_of_ble_eq_true rfl⟩ CR.f ((show CtI mX5_numberNamed _ [pR (some 88), pI (nI 3)] (fun v h' => v = hlp (fdN (S.2.1 3) (tkV T n s) (S.1 0 3 0)) ∧ h' = _) from c_X5_numberNamed hG hR hT hs (k := 3) (by decide) hK hS hO)) (fun vq1 gq1 eq1 => ?_)
  rw [eq1.2, eq1.1]
  refine J_istore_n (L' := [some (pR (some 88)), some (pI (hlp (fdN (S.2.1 3) (tkV T n s) (S.1 0 3 0)))), none]) dX5_faultOfHelped_5 (by decide) rfl ?_
  refine J_iload_n dX5_faultOfHelped_6 rfl ?_
  refine J_iconst (x := -1) dX5_faultOfHelped_7 (by decide) ?_
  refine J_icmp_ne dX5_faultOfHelped_8 (fun d1 => ?_) (fun d1 => ?_)
  · have hz : fdN (S.2.1 3) (tkV T n s) (S.1 0 3 0) ≠ 0 := fun y => d1 ((hlp_m1 (by omega)).mpr y)
    refine J_L (L' := [some (pR (some 88)), some (pI (nI (fdN (S.2.1 3) (tkV T n s) (S.1 0 3 0) - 1))), none]) (by rw [hlp_p hz]) ?_
    have hf := (hO.1.2.2.2.2.1 (fdN (S.2.1 3) (tkV T n s) (S.1 0 3 0) - 1) (by omega)).1
    have hq := hlp_m1 (n := S.1 4 (fdN (S.2.1 3) (tkV T n s) (S.1 0 3 0) - 1) 0) (by omega)
    refine J_aload_n dX5_faultOfHelped_13 rfl ?_
    refine J_getR (r := some d) dX5_faultOfHelped_14 fX5_35 s88 (fun _ => rfl) (hS.1.2) ?_
    refine J_getR (r := some (d + 7)) dX5_faultOfHelped_17 fX5_197 hS.1.1.s (fun _ => rfl) (hS.1.1.e10 hG) ?_
    refine J_iload_n dX5_faultOfHelped_20 rfl ?_
    refine J_aald4N (r := some (d + 9 + 7 * (fdN (S.2.1 3) (tkV T n s) (S.1 0 3 0) - 1))) dX5_faultOfHelped_21 hS.1.1.s7 (by decide) (by omega) (hS.1.1.eth hG (by omega)) ?_
    refine J_getI dX5_faultOfHelped_22 fX5_206 (hS.1.1.th (by omega)).s (fun _ => rfl) ?_
    refine J_cvI ((hS.2.1.2.2.2.2.2.1 _ (by omega)).1) ?_
    refine J_iconst (x := -1) dX5_faultOfHelped_25 (by decide) ?_
    refine J_icmp_eq dX5_faultOfHelped_26 (fun d2 => ?_) (fun d2 => ?_)
    · refine J_iconstN (n := 0) dX5_faultOfHelped_33 ?_
      refine J_istore_n (L' := [some (pR (some 88)), some (pI (nI (fdN (S.2.1 3) (tkV T n s) (S.1 0 3 0) - 1))), some (pI (nI 0))]) dX5_faultOfHelped_34 (by decide) rfl ?_
      refine J_iload_n dX5_faultOfHelped_35 rfl ?_
      refine J_aload_n dX5_faultOfHelped_36 rfl ?_
      refine J_getR (r := some 89) dX5_faultOfHelped_37 fX5_18 s88 (fun _ => rfl) (g88_11 hG) ?_
      refine J_iconstN (n := 0) dX5_faultOfHelped_40 ?_
      refine J_ialdN dX5_faultOfHelped_41 s89 (by decide) (by omega) ?_
      refine J_cvI (h0) ?_
      refine J_icmp_eqN dX5_faultOfHelped_42 (by omega) (by omega) (fun d3 => ?_) (fun d3 => ?_)
      · refine J_iconstN (n := 3) dX5_faultOfHelped_49 ?_
        refine J_goto dX5_faultOfHelped_50 ?_
        exact J_retI dX5_faultOfHelped_54 rfl ⟨by rw [if_neg hz, if_pos (by first | exact Or.inl d3 | exact Or.inr (fun y => d2 (hq.mpr y)))], rfl⟩
      · refine J_iload_n dX5_faultOfHelped_45 rfl ?_
        refine J_if_eq dX5_faultOfHelped_46 (fun c0 => ?_) (fun c0 => absurd c0 (by decide))
        refine J_iconstN (n := 0) dX5_faultOfHelped_53 ?_
        exact J_retI dX5_faultOfHelped_54 rfl ⟨by rw [if_neg hz, if_neg (fun y => y.elim d3 (fun z => z (hq.mp d2)))], rfl⟩
    · refine J_iconstN (n := 1) dX5_faultOfHelped_29 ?_
      refine J_goto dX5_faultOfHelped_30 ?_
      refine J_istore_n (L' := [some (pR (some 88)), some (pI (nI (fdN (S.2.1 3) (tkV T n s) (S.1 0 3 0) - 1))), some (pI (nI 1))]) dX5_faultOfHelped_34 (by decide) rfl ?_
      refine J_iload_n dX5_faultOfHelped_35 rfl ?_
      refine J_aload_n dX5_faultOfHelped_36 rfl ?_
      refine J_getR (r := some 89) dX5_faultOfHelped_37 fX5_18 s88 (fun _ => rfl) (g88_11 hG) ?_
      refine J_iconstN (n := 0) dX5_faultOfHelped_40 ?_
      refine J_ialdN dX5_faultOfHelped_41 s89 (by decide) (by omega) ?_
      refine J_cvI (h0) ?_
      refine J_icmp_eqN dX5_faultOfHelped_42 (by omega) (by omega) (fun d3 => ?_) (fun d3 => ?_)
      · refine J_iconstN (n := 3) dX5_faultOfHelped_49 ?_
        refine J_goto dX5_faultOfHelped_50 ?_
        exact J_retI dX5_faultOfHelped_54 rfl ⟨by rw [if_neg hz, if_pos (by first | exact Or.inl d3 | exact Or.inr (fun y => d2 (hq.mpr y)))], rfl⟩
      · refine J_iload_n dX5_faultOfHelped_45 rfl ?_
        refine J_if_eq dX5_faultOfHelped_46 (fun c0 => absurd c0 (by decide)) (fun c0 => ?_)
        refine J_iconstN (n := 3) dX5_faultOfHelped_49 ?_
        refine J_goto dX5_faultOfHelped_50 ?_
        exact J_retI dX5_faultOfHelped_54 rfl ⟨by rw [if_neg hz, if_pos (by first | exact Or.inl d3 | exact Or.inr (fun y => d2 (hq.mpr y)))], rfl⟩
  · refine J_iconstN (n := 5) dX5_faultOfHelped_11 ?_
    exact J_retI dX5_faultOfHelped_12 rfl ⟨by rw [if_pos ((hlp_m1 (by omega)).mp d1)], rfl⟩
