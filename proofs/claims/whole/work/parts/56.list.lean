/-! ===== the list: the class ===== -/
theorem sh105 {i : Nat} (h : i < 4) : SHF[105 + i]? = some (.inr (3, 41)) := by
  rcases (show i = 0 ∨ i = 1 ∨ i = 2 ∨ i = 3 by omega) with rfl | rfl | rfl | rfl <;> rfl
theorem sh111 {i : Nat} (h : i < 5) : SHF[111 + i]? = some (.inr (3, 100)) := by
  rcases (show i = 0 ∨ i = 1 ∨ i = 2 ∨ i = 3 ∨ i = 4 by omega) with rfl | rfl | rfl | rfl | rfl <;> rfl
theorem row104_e {i : Nat} {r : Nat → Nat → Option Nat} (hG : GR r) (h : i < 4) : r 104 i = some (105 + i) := by
  rcases (show i = 0 ∨ i = 1 ∨ i = 2 ∨ i = 3 by omega) with rfl | rfl | rfl | rfl
  · exact g104_0 hG
  · exact g104_1 hG
  · exact g104_2 hG
  · exact g104_3 hG
theorem row110_e {i : Nat} {r : Nat → Nat → Option Nat} (hG : GR r) (h : i < 5) : r 110 i = some (111 + i) := by
  rcases (show i = 0 ∨ i = 1 ∨ i = 2 ∨ i = 3 ∨ i = 4 by omega) with rfl | rfl | rfl | rfl | rfl
  · exact g110_0 hG
  · exact g110_1 hG
  · exact g110_2 hG
  · exact g110_3 hG
  · exact g110_4 hG
theorem XI.ls {h h' : PH} {p : Nat} {A : AS} {l : Nat → Nat} (a : XI h p A) (hW : WF A) (f : Fr 92 116 h h') (h1 : h'.1 103 2 = nI 1) (h2 : ∀ t, t < aP A 0 3 0 → h'.1 109 t = nI (l t)) : XI h' p (wLs A (1, l)) := by
  obtain ⟨⟨a1, a2, a3⟩, ⟨a4, a5⟩, a6, a7, ⟨a8, a9⟩, -, a12⟩ := a
  exact ⟨⟨a1, f.r.trans a2, f.r.trans a3⟩, ⟨fun i hi => (f.i (by omega)).trans (a4 i hi), (f.i (by omega)).trans a5⟩, a6.fr a1 hW.2.2.1 f (by omega), a7.fr a1 hW.2.2.1 f (by omega), ⟨(f.i (by omega)).trans a8, (f.i (by omega)).trans a9⟩, ⟨h1, fun _ => h2⟩, fun r hr => by
    have := rcX_b hr
    exact (a12 r hr).fr f (by omega)⟩
theorem hlp_sub {n : Nat} (h : n < 2 ^ 31) : nI n - nI 1 = hlp n := by
  cases n with
  | zero => rfl
  | succ k =>
    show nI (k + 1) - nI 1 = nI k
    rw [pk_sub (by omega), Nat.add_sub_cancel]
theorem hlp_dec {k : Nat} : hlp (k + 1) + (-1) = hlp k := by
  show nI k + (-1) = hlp k
  cases k with
  | zero => rfl
  | succ j =>
    show nI (j + 1) + (-1) = nI j
    have e : nI (j + 1) - nI 1 = nI (j + 1 - 1) := pk_sub (by omega)
    rw [Nat.add_sub_cancel] at e
    rw [← e]
    have : (-1 : Int32) = - nI 1 := by decide
    rw [this, Int32.sub_eq_add_neg]
theorem hlp_lt {n : Nat} (h : n < 2 ^ 31) : hlp n < 0 ↔ n = 0 := by
  cases n with
  | zero => exact ⟨fun _ => rfl, fun _ => by decide⟩
  | succ k =>
    refine ⟨fun z => ?_, fun z => absurd z (Nat.succ_ne_zero k)⟩
    have z2 := lt_0_.mp z
    have e : (hlp (k + 1)).toInt = (nI k).toInt := rfl
    rw [e, nI_toInt (by omega)] at z2
    omega
theorem c_X1_sumWith {h : PH} {t q c : Nat} (hG : GR h.2.2) (ht : t < 4) (hq : q < 41) (hc : c < 100) : CtL mX1_sumWith h [pR (some 103), pI (nI t), pI (nI q), pI (nI c)] (fun v h' => v = h.2.1 (105 + t) q + h.2.1 (111 + (t + 1)) c ∧ h' = h) := by
  refine Ct.of (L := [some (pR (some 103)), some (pI (nI t)), some (pI (nI q)), some (pI (nI c))]) rfl rfl (Nat.le_of_ble_eq_true rfl) rfl ?_
  refine J_aload_n dX1_sumWith_0 rfl ?_
  refine J_getR (r := some 104) dX1_sumWith_1 fX1_11 s103 (fun _ => rfl) (g103_0 hG) ?_
  refine J_iload_n dX1_sumWith_4 rfl ?_
  refine J_aald8N (r := some (105 + t)) dX1_sumWith_5 s104 (by decide) (by omega) (row104_e hG (by omega)) ?_
  refine J_iload_n dX1_sumWith_6 rfl ?_
  refine J_laldN dX1_sumWith_7 (sh105 (by omega)) (by decide) (by omega) ?_
  refine J_aload_n dX1_sumWith_8 rfl ?_
  refine J_getR (r := some 110) dX1_sumWith_9 fX1_24 s103 (fun _ => rfl) (g103_3 hG) ?_
  refine J_iload_n dX1_sumWith_12 rfl ?_
  refine J_iconstN (n := 1) dX1_sumWith_13 ?_
  refine J_iaddN dX1_sumWith_14 ?_
  refine J_aald8N (r := some (111 + (t + 1))) dX1_sumWith_15 s110 (by decide) (by omega) (row110_e hG (by omega)) ?_
  refine J_iload_n dX1_sumWith_16 rfl ?_
  refine J_laldN dX1_sumWith_17 (sh111 (by omega)) (by decide) (by omega) ?_
  refine J_ladd dX1_sumWith_18 ?_
  exact J_retL dX1_sumWith_19 rfl ⟨rfl, rfl⟩
theorem c_X1_bestFor {h : PH} {t r c : Nat} {f : Nat → Int64} (hG : GR h.2.2) (ht : t < 4) (hr : 1 ≤ r ∧ r ≤ 9) (hc : c < 100) (hs : ∀ q, q ≤ qm r c → h.2.1 (105 + t) q + h.2.1 (111 + (t + 1)) (c - q * r) = f q) : CtI mX1_bestFor h [pR (some 103), pI (nI t), pI (nI r), pI (nI c)] (fun v h' => v = nI (bst f (qm r c)) ∧ h' = h) := by
  have h40 := qm_40 r c
  refine Ct.of (L := [some (pR (some 103)), some (pI (nI t)), some (pI (nI r)), some (pI (nI c)), none, none]) rfl rfl (Nat.le_of_ble_eq_true rfl) rfl ?_
  refine J_iconstN (n := 0) dX1_bestFor_0 ?_
  refine J_istore (L' := [some (pR (some 103)), some (pI (nI t)), some (pI (nI r)), some (pI (nI c)), some (pI (nI 0)), none]) dX1_bestFor_1 (by decide) rfl ?_
  refine J_iconstN (n := 1) dX1_bestFor_3 ?_
  refine J_istore (L' := [some (pR (some 103)), some (pI (nI t)), some (pI (nI r)), some (pI (nI c)), some (pI (nI 0)), some (pI (nI 1))]) dX1_bestFor_4 (by decide) rfl ?_
  refine J_L (L' := [some (pR (some 103)), some (pI (nI t)), some (pI (nI r)), some (pI (nI c)), some (pI (nI (bst f 0))), some (pI (nI (0 + 1)))]) rfl ?_
  refine J_for (L := fun i => [some (pR (some 103)), some (pI (nI t)), some (pI (nI r)), some (pI (nI c)), some (pI (nI (bst f i))), some (pI (nI (i + 1)))]) (hf := fun i => h) (e := qm r c) ?_ (fun i hi ih => ?_) 0 (by omega)
  · show J _ _ _ _ _ [some (pR (some 103)), some (pI (nI t)), some (pI (nI r)), some (pI (nI c)), some (pI (nI (bst f (qm r c)))), some (pI (nI (qm r c + 1)))] _ _ (h)
    have hx : ¬ (qm r c + 1 ≤ 40 ∧ (qm r c + 1) * r ≤ c) := fun z => absurd ((qm_le (k := qm r c + 1) (by omega)).mpr z) (by omega)
    have hb := bst_le f (qm r c)
    have hmb : (qm r c + 1) * r ≤ 41 * 9 := Nat.mul_le_mul (by omega) (by omega)
    refine J_iload dX1_bestFor_6 rfl ?_
    refine J_bipush (x := nI 40) dX1_bestFor_8 (by decide) ?_
    refine J_icmp_gtN dX1_bestFor_10 (by omega) (by omega) (fun c1 => ?_) (fun c1 => ?_)
    · refine J_iload dX1_bestFor_61 rfl ?_
      exact J_retI dX1_bestFor_63 rfl ⟨rfl, rfl⟩
    · refine J_iload dX1_bestFor_13 rfl ?_
      refine J_iload_n dX1_bestFor_15 rfl ?_
      refine J_imulN dX1_bestFor_16 ?_
      refine J_iload_n dX1_bestFor_17 rfl ?_
      refine J_icmp_gtN dX1_bestFor_18 (by omega) (by omega) (fun c2 => ?_) (fun c2 => ?_)
      · refine J_iload dX1_bestFor_61 rfl ?_
        exact J_retI dX1_bestFor_63 rfl ⟨rfl, rfl⟩
      · exact (show False by omega).elim
  · show J _ _ _ _ _ [some (pR (some 103)), some (pI (nI t)), some (pI (nI r)), some (pI (nI c)), some (pI (nI (bst f i))), some (pI (nI (i + 1)))] _ _ (h)
    have hm := (qm_le (by omega)).mp (show i + 1 ≤ qm r c by omega)
    have hb := bst_le f i
    have hm2 := (qm_le (by omega)).mp (show bst f i ≤ qm r c by omega)
    refine J_iload dX1_bestFor_6 rfl ?_
    refine J_bipush (x := nI 40) dX1_bestFor_8 (by decide) ?_
    refine J_icmp_gtN dX1_bestFor_10 (by omega) (by omega) (fun c3 => ?_) (fun c3 => ?_)
    · exact (show False by omega).elim
    · refine J_iload dX1_bestFor_13 rfl ?_
      refine J_iload_n dX1_bestFor_15 rfl ?_
      refine J_imulN dX1_bestFor_16 ?_
      refine J_iload_n dX1_bestFor_17 rfl ?_
      refine J_icmp_gtN dX1_bestFor_18 (by omega) (by omega) (fun c4 => ?_) (fun c4 => ?_)
      · exact (show False by omega).elim
      · refine J_aload_n dX1_bestFor_21 rfl ?_
        refine J_iload_n dX1_bestFor_22 rfl ?_
        refine J_iload dX1_bestFor_23 rfl ?_
        refine J_iload_n dX1_bestFor_25 rfl ?_
        refine J_iload dX1_bestFor_26 rfl ?_
        refine J_iload_n dX1_bestFor_28 rfl ?_
        refine J_imulN dX1_bestFor_29 ?_
        refine J_isubN dX1_bestFor_30 (by omega) ?_
        refine J_cVL (ci := 1) (c := 103) (as := [pI (nI t), pI (nI (i + 1)), pI (nI (c - (i + 1) * r))]) (st := []) dX1_bestFor_31 lX1_49 okX1_sumWith vX1_sumWith s103 (by decide) rfl rfl rfl (Nat.le_of_ble_eq_true rfl) ⟨Nat.le_of_ble_eq_true rfl, Nat.le_of_ble_eq_true rfl⟩ CR.f (c_X1_sumWith hG (by omega) (by omega) (by omega)) (fun vq5 gq5 eq5 => ?_)
        obtain ⟨rfl, fq5⟩ := eq5
        rw [fq5]
        refine J_cvL (y := f (i + 1)) (hs (i + 1) (by omega)) ?_
        refine J_aload_n dX1_bestFor_34 rfl ?_
        refine J_iload_n dX1_bestFor_35 rfl ?_
        refine J_iload dX1_bestFor_36 rfl ?_
        refine J_iload_n dX1_bestFor_38 rfl ?_
        refine J_iload dX1_bestFor_39 rfl ?_
        refine J_iload_n dX1_bestFor_41 rfl ?_
        refine J_imulN dX1_bestFor_42 ?_
        refine J_isubN dX1_bestFor_43 (by omega) ?_
        refine J_cVL (ci := 1) (c := 103) (as := [pI (nI t), pI (nI (bst f i)), pI (nI (c - bst f i * r))]) (st := [pL (f (i + 1))]) dX1_bestFor_44 lX1_49 okX1_sumWith vX1_sumWith s103 (by decide) rfl rfl rfl (Nat.le_of_ble_eq_true rfl) ⟨Nat.le_of_ble_eq_true rfl, Nat.le_of_ble_eq_true rfl⟩ CR.f (c_X1_sumWith hG (by omega) (by omega) (by omega)) (fun vq6 gq6 eq6 => ?_)
        obtain ⟨rfl, fq6⟩ := eq6
        rw [fq6]
        refine J_cvL (y := f (bst f i)) (hs (bst f i) (by omega)) ?_
        refine J_lcmp dX1_bestFor_47 ?_
        refine J_lif_le dX1_bestFor_48 (fun d1 => ?_) (fun d1 => ?_)
        · refine J_iincN (n := 1) (L' := [some (pR (some 103)), some (pI (nI t)), some (pI (nI r)), some (pI (nI c)), some (pI (nI (bst f i))), some (pI (nI (i + 1 + 1)))]) dX1_bestFor_55 rfl (by decide) rfl ?_
          refine J_goto dX1_bestFor_58 ?_
          have K := ih
          rw [show bst f (i + 1) = bst f i from if_neg (Int64.not_lt.mpr d1)] at K
          exact K
        · refine J_iload dX1_bestFor_51 rfl ?_
          refine J_istore (L' := [some (pR (some 103)), some (pI (nI t)), some (pI (nI r)), some (pI (nI c)), some (pI (nI (i + 1))), some (pI (nI (i + 1)))]) dX1_bestFor_53 (by decide) rfl ?_
          refine J_iincN (n := 1) (L' := [some (pR (some 103)), some (pI (nI t)), some (pI (nI r)), some (pI (nI c)), some (pI (nI (i + 1))), some (pI (nI (i + 1 + 1)))]) dX1_bestFor_55 rfl (by decide) rfl ?_
          refine J_goto dX1_bestFor_58 ?_
          have K := ih
          rw [show bst f (i + 1) = i + 1 from if_pos (Int64.not_le.mp d1)] at K
          exact K
theorem c_X1_chooseEach {h : PH} {p : Nat} {A : AS} (hG : GR h.2.2) (hX : XI h p A) (hW : WF A) (hsc : ∀ t, t < aP A 0 3 0 → ∀ q, q < 41 → h.2.1 (105 + t) q = sOf A t q) (hbe : ∀ t, t ≤ aP A 0 3 0 → ∀ k, k ≤ aP A 0 1 0 → h.2.1 (111 + t) k = bT A t k) : CtV mX1_chooseEach h [pR (some 103), pR (some p)] (fun h' => (∀ t, t < aP A 0 3 0 → h'.1 109 t = nI (chL A t)) ∧ Fr 109 109 h h') := by
  have bN := hW.1
  have bk := hW.wk
  have bc := hW.cs
  have bw := hW.wn
  have bt := hW.tn
  have bf := hW.fn
  have hG0 := hG
  have bp := hX.po.b
  refine Ct.of (L := [some (pR (some 103)), some (pR (some p)), none, none]) rfl rfl (Nat.le_of_ble_eq_true rfl) rfl ?_
  refine J_aload_n dX1_chooseEach_0 rfl ?_
  refine J_getI dX1_chooseEach_1 fX1_27 hX.po.s (fun _ => rfl) ?_
  refine J_cvI (hX.cs) ?_
  refine J_istore_n (L' := [some (pR (some 103)), some (pR (some p)), some (pI (nI (aP A 0 1 0))), none]) dX1_chooseEach_4 (by decide) rfl ?_
  refine J_iconstN (n := 0) dX1_chooseEach_5 ?_
  refine J_istore_n (L' := [some (pR (some 103)), some (pR (some p)), some (pI (nI (aP A 0 1 0))), some (pI (nI 0))]) dX1_chooseEach_6 (by decide) rfl ?_
  refine J_L (L' := [some (pR (some 103)), some (pR (some p)), some (pI (nI (csL A 0))), some (pI (nI 0))]) rfl ?_
  refine J_forI (α := Unit) (L := fun i1 aa1 => [some (pR (some 103)), some (pR (some p)), some (pI (nI (csL A i1))), some (pI (nI i1))]) (fun i1 aa1 h1 => (∀ j, j < i1 → h1.1 109 j = nI (chL A j)) ∧ Fr 109 109 h h1) (e := aP A 0 3 0) (fun aa1 h1 hI1 => ?_) (fun i1 aa1 h1 hi1 hI1 ih1 => ?_) 0 (()) _ (by omega) (⟨fun j hj => absurd hj (Nat.not_lt_zero j), Fr.rf⟩)
  · show J _ _ _ _ _ [some (pR (some 103)), some (pR (some p)), some (pI (nI (csL A (aP A 0 3 0)))), some (pI (nI (aP A 0 3 0)))] _ _ h1
    obtain ⟨hI2, hI3⟩ := hI1
    have hG := hI3.g hG0
    refine J_iload_n dX1_chooseEach_7 rfl ?_
    refine J_aload_n dX1_chooseEach_8 rfl ?_
    refine J_getI dX1_chooseEach_9 fX1_33 hX.po.s (fun _ => rfl) ?_
    refine J_cvI (((hI3.i (by omega)).trans hX.tn)) ?_
    refine J_icmp_geN dX1_chooseEach_12 (by omega) (by omega) (fun c1 => ?_) (fun c1 => ?_)
    · exact J_retV dX1_chooseEach_61 rfl ⟨hI2, hI3⟩
    · exact (show False by omega).elim
  · show J _ _ _ _ _ [some (pR (some 103)), some (pR (some p)), some (pI (nI (csL A i1))), some (pI (nI i1))] _ _ h1
    obtain ⟨hI2, hI3⟩ := hI1
    have hG := hI3.g hG0
    have bcs := csL_b (A := A) i1
    have btr := (hW.t hi1).1
    have hch := chL_le A i1
    have hcr : chL A i1 * aP A 2 i1 0 ≤ csL A i1 := ((qm_le (by omega)).mp (bst_le _ _)).2
    refine J_iload_n dX1_chooseEach_7 rfl ?_
    refine J_aload_n dX1_chooseEach_8 rfl ?_
    refine J_getI dX1_chooseEach_9 fX1_33 hX.po.s (fun _ => rfl) ?_
    refine J_cvI (((hI3.i (by omega)).trans hX.tn)) ?_
    refine J_icmp_geN dX1_chooseEach_12 (by omega) (by omega) (fun c2 => ?_) (fun c2 => ?_)
    · exact (show False by omega).elim
    · refine J_aload_n dX1_chooseEach_15 rfl ?_
      refine J_getR (r := some 109) dX1_chooseEach_16 fX1_16 s103 (fun _ => rfl) (g103_1 hG) ?_
      refine J_iload_n dX1_chooseEach_19 rfl ?_
      refine J_aload_n dX1_chooseEach_20 rfl ?_
      refine J_iload_n dX1_chooseEach_21 rfl ?_
      refine J_aload_n dX1_chooseEach_22 rfl ?_
      refine J_getR (r := some (p + 7)) dX1_chooseEach_23 fX1_36 hX.po.s (fun _ => rfl) (hX.po.e10 hG) ?_
      refine J_iload_n dX1_chooseEach_26 rfl ?_
      refine J_aald4N (r := some (p + 9 + 7 * i1)) dX1_chooseEach_27 hX.po.s7 (by decide) (by omega) (hX.po.eth hG (by omega)) ?_
      refine J_getI dX1_chooseEach_28 fX1_40 (hX.th hW hi1).s (fun _ => rfl) ?_
      refine J_cvI (((hI3.i (by omega)).trans (hX.t hi1 (by decide)))) ?_
      refine J_iload_n dX1_chooseEach_31 rfl ?_
      refine J_cVI (ci := 1) (c := 103) (as := [pI (nI i1), pI (nI (aP A 2 i1 0)), pI (nI (csL A i1))]) (st := [pI (nI i1), pR (some 109)]) dX1_chooseEach_32 lX1_45 okX1_bestFor vX1_bestFor s103 (by decide) rfl rfl rfl (Nat.le_of_ble_eq_true rfl) ⟨Nat.le_of_ble_eq_true rfl, Nat.le_of_ble_eq_true rfl⟩ CR.f (c_X1_bestFor (f := lfT A i1 (csL A i1)) hG (by omega) btr (by omega) (fun q hq => by rw [hI3.l (by omega), hI3.l (by omega), hsc i1 hi1 q (by have := qm_40 (aP A 2 i1 0) (csL A i1); omega), hbe (i1 + 1) (by omega) _ (by omega)]; rfl)) (fun vq3 gq3 eq3 => ?_)
      obtain ⟨rfl, fq3⟩ := eq3
      rw [fq3]
      refine J_cvI (y := nI (chL A i1)) rfl ?_
      refine J_iastN dX1_chooseEach_35 s109 (by decide) (by omega) ?_
      refine J_iload_n dX1_chooseEach_36 rfl ?_
      refine J_aload_n dX1_chooseEach_37 rfl ?_
      refine J_getR (r := some 109) dX1_chooseEach_38 fX1_16 s103 (fun _ => rfl) ((xRI).trans (g103_1 hG)) ?_
      refine J_iload_n dX1_chooseEach_41 rfl ?_
      refine J_ialdN dX1_chooseEach_42 s109 (by decide) (by omega) ?_
      refine J_cvI (rI_s) ?_
      refine J_aload_n dX1_chooseEach_43 rfl ?_
      refine J_getR (r := some (p + 7)) dX1_chooseEach_44 fX1_36 hX.po.s (fun _ => rfl) ((xRI).trans (hX.po.e10 hG)) ?_
      refine J_iload_n dX1_chooseEach_47 rfl ?_
      refine J_aald4N (r := some (p + 9 + 7 * i1)) dX1_chooseEach_48 hX.po.s7 (by decide) (by omega) (hX.po.eth hG (by omega)) ?_
      refine J_getI dX1_chooseEach_49 fX1_40 (hX.th hW hi1).s (fun _ => rfl) ?_
      refine J_cvI ((rI_c (by omega)).trans (((hI3.i (by omega)).trans (hX.t hi1 (by decide))))) ?_
      refine J_imulN dX1_chooseEach_52 ?_
      refine J_isubN dX1_chooseEach_53 (by omega) ?_
      refine J_istore_n (L' := [some (pR (some 103)), some (pR (some p)), some (pI (nI (csL A i1 - chL A i1 * aP A 2 i1 0))), some (pI (nI i1))]) dX1_chooseEach_54 (by decide) rfl ?_
      refine J_iincN (n := 1) (L' := [some (pR (some 103)), some (pR (some p)), some (pI (nI (csL A i1 - chL A i1 * aP A 2 i1 0))), some (pI (nI (i1 + 1)))]) dX1_chooseEach_55 rfl (by decide) rfl ?_
      refine J_goto dX1_chooseEach_58 ?_
      refine J_L (L' := [some (pR (some 103)), some (pR (some p)), some (pI (nI (csL A (i1 + 1)))), some (pI (nI (i1 + 1)))]) rfl ?_
      exact ih1 () _ ⟨fun j hj => by
        by_cases q : j = i1
        · subst q; exact rI_s
        · exact (rI_k q).trans (hI2 j (by omega)), hI3.tr (Fr.sI (by decide) (by decide))⟩
theorem c_X1_choose {h : PH} {p : Nat} {A : AS} (hG : GR h.2.2) (hX : XI h p A) (hW : WF A) (hsc : ∀ t, t < aP A 0 3 0 → ∀ q, q < 41 → h.2.1 (105 + t) q = sOf A t q) : CtL mX1_choose h [pR (some 103), pR (some p)] (fun v h' => v = bT A 0 (aP A 0 1 0) ∧ h'.1 103 2 = nI 1 ∧ (∀ t, t < aP A 0 3 0 → h'.1 109 t = nI (chL A t)) ∧ Fr 103 115 h h') := by
  have bN := hW.1
  have bk := hW.wk
  have bc := hW.cs
  have bw := hW.wn
  have bt := hW.tn
  have bf := hW.fn
  have hG0 := hG
  have bp := hX.po.b
  refine Ct.of (L := [some (pR (some 103)), some (pR (some p)), none, none, none]) rfl rfl (Nat.le_of_ble_eq_true rfl) rfl ?_
  refine J_iconstN (n := 0) dX1_choose_0 ?_
  refine J_istore_n (L' := [some (pR (some 103)), some (pR (some p)), some (pI (nI 0)), none, none]) dX1_choose_1 (by decide) rfl ?_
  refine J_L (L' := [some (pR (some 103)), some (pR (some p)), some (pI (nI 0)), none, none]) rfl ?_
  refine J_forI (α := Unit) (L := fun i1 aa1 => [some (pR (some 103)), some (pR (some p)), some (pI (nI i1)), none, none]) (fun i1 aa1 h1 => (∀ j, j < i1 → h1.2.1 (111 + aP A 0 3 0) j = 0) ∧ Fr 111 115 h h1) (e := aP A 0 1 0 + 1) (fun aa1 h1 hI1 => ?_) (fun i1 aa1 h1 hi1 hI1 ih1 => ?_) 0 (()) _ (by omega) (⟨fun j hj => absurd hj (Nat.not_lt_zero j), Fr.rf⟩)
  · show J _ _ _ _ _ [some (pR (some 103)), some (pR (some p)), some (pI (nI (aP A 0 1 0 + 1))), none, none] _ _ h1
    obtain ⟨hI2, hI3⟩ := hI1
    have hG := hI3.g hG0
    refine J_iload_n dX1_choose_2 rfl ?_
    refine J_aload_n dX1_choose_3 rfl ?_
    refine J_getI dX1_choose_4 fX1_27 hX.po.s (fun _ => rfl) ?_
    refine J_cvI (((hI3.i (by omega)).trans hX.cs)) ?_
    refine J_icmp_gtN dX1_choose_7 (by omega) (by omega) (fun c1 => ?_) (fun c1 => ?_)
    · refine J_aload_n dX1_choose_28 rfl ?_
      refine J_getI dX1_choose_29 fX1_33 hX.po.s (fun _ => rfl) ?_
      refine J_cvI (((hI3.i (by omega)).trans hX.tn)) ?_
      refine J_iconstN (n := 1) dX1_choose_32 ?_
      refine J_isub dX1_choose_33 ?_
      refine J_istore_n (L' := [some (pR (some 103)), some (pR (some p)), some (pI ((nI (aP A 0 3 0)) - (nI 1))), none, none]) dX1_choose_34 (by decide) rfl ?_
      refine J_L (L' := [some (pR (some 103)), some (pR (some p)), some (pI (hlp (aP A 0 3 0 - 0))), none, none]) (by rw [hlp_sub (by omega)]; rfl) ?_
      refine J_forI (α := Unit) (L := fun i22 aa22 => [some (pR (some 103)), some (pR (some p)), some (pI (hlp (aP A 0 3 0 - i22))), none, none]) (fun i22 aa22 h22 => (∀ t2, aP A 0 3 0 - i22 ≤ t2 → t2 ≤ aP A 0 3 0 → ∀ k, k ≤ aP A 0 1 0 → h22.2.1 (111 + t2) k = bT A t2 k) ∧ Fr 111 115 h h22) (e := aP A 0 3 0) (fun aa22 h22 hI22 => ?_) (fun i22 aa22 h22 hi22 hI22 ih22 => ?_) 0 (()) _ (by omega) (⟨fun t2 h1 h2 k hk => by rw [show t2 = aP A 0 3 0 by omega, bT_T (Nat.le_refl _)]; exact hI2 k (by omega), hI3⟩)
      · show J _ _ _ _ _ [some (pR (some 103)), some (pR (some p)), some (pI (hlp (aP A 0 3 0 - (aP A 0 3 0)))), none, none] _ _ h22
        obtain ⟨hJ2, hJ3⟩ := hI22
        have hG := hJ3.g hG0
        have hz : hlp (aP A 0 3 0 - aP A 0 3 0) < 0 := (hlp_lt (by omega)).mpr (by omega)
        refine J_iload_n dX1_choose_35 rfl ?_
        refine J_if_lt dX1_choose_36 (fun c2 => ?_) (fun c2 => ?_)
        · refine J_aload_n dX1_choose_107 rfl ?_
          refine J_aload_n dX1_choose_108 rfl ?_
          refine J_cVV (ci := 1) (c := 103) (as := [pR (some p)]) (st := []) dX1_choose_109 lX1_53 okX1_chooseEach vX1_chooseEach s103 (by decide) rfl rfl rfl (Nat.le_of_ble_eq_true rfl) ⟨Nat.le_of_ble_eq_true rfl, Nat.le_of_ble_eq_true rfl⟩ CR.f (c_X1_chooseEach hG (hX.xf hW (.o1 hJ3 (by decide) (by decide))) hW (fun t ht q hq => (hJ3.l (by omega)).trans (hsc t ht q hq)) (fun t ht k hk => hJ2 t (by omega) ht k hk)) (fun g4 e4 => ?_)
          have hG := e4.2.g hG
          refine J_aload_n dX1_choose_112 rfl ?_
          refine J_iconstN (n := 1) dX1_choose_113 ?_
          refine J_putI dX1_choose_114 fX1_20 s103 rfl rfl rfl (fun _ _ => rfl) ?_
          refine J_aload_n dX1_choose_117 rfl ?_
          refine J_getR (r := some 110) dX1_choose_118 fX1_24 s103 (fun _ => rfl) ((xRI).trans (g103_3 hG)) ?_
          refine J_iconstN (n := 0) dX1_choose_121 ?_
          refine J_aald8N (r := some (111 + 0)) dX1_choose_122 s110 (by decide) (by omega) (row110_e hG (by omega)) ?_
          refine J_aload_n dX1_choose_123 rfl ?_
          refine J_getI dX1_choose_124 fX1_27 hX.po.s (fun _ => rfl) ?_
          refine J_cvI ((rI_c (by omega)).trans (((e4.2.i (by omega)).trans ((hJ3.i (by omega)).trans hX.cs)))) ?_
          refine J_laldN dX1_choose_127 (sh111 (by omega)) (by decide) (by omega) ?_
          refine J_cvL ((xLI).trans (((e4.2.l (by decide)).trans (hJ2 0 (by omega) (Nat.zero_le _) _ (Nat.le_refl _))))) ?_
          exact J_retL dX1_choose_128 rfl ⟨rfl, rI_s, fun t ht => (rI_c (by decide)).trans (e4.1 t ht), ((hJ3.mo (by decide) (by decide)).tr (e4.2.mo (by decide) (by decide))).tr (Fr.sI (by decide) (by decide))⟩
        · exact absurd hz c2
      · show J _ _ _ _ _ [some (pR (some 103)), some (pR (some p)), some (pI (hlp (aP A 0 3 0 - i22))), none, none] _ _ h22
        obtain ⟨hJ2, hJ3⟩ := hI22
        have hG := hJ3.g hG0
        obtain ⟨t, et⟩ : ∃ t, aP A 0 3 0 - i22 = t + 1 := ⟨aP A 0 3 0 - i22 - 1, by omega⟩
        have ht : t < aP A 0 3 0 := by omega
        have btr := (hW.t ht).1
        rw [et]
        refine J_L (L' := [some (pR (some 103)), some (pR (some p)), some (pI (nI t)), none, none]) rfl ?_
        refine J_iload_n dX1_choose_35 rfl ?_
        refine J_if_ltN dX1_choose_36 (by omega) ?_
        refine J_iconstN (n := 0) dX1_choose_39 ?_
        refine J_istore_n (L' := [some (pR (some 103)), some (pR (some p)), some (pI (nI t)), some (pI (nI 0)), none]) dX1_choose_40 (by decide) rfl ?_
        refine J_L (L' := [some (pR (some 103)), some (pR (some p)), some (pI (nI t)), some (pI (nI 0)), none]) rfl ?_
        refine J_forI (α := Unit) (L := fun i33 aa33 => [some (pR (some 103)), some (pR (some p)), some (pI (nI t)), some (pI (nI i33)), none]) (fun i33 aa33 h33 => (∀ k, k < i33 → h33.2.1 (111 + t) k = bT A t k) ∧ (∀ t2, t < t2 → t2 ≤ aP A 0 3 0 → ∀ k, k ≤ aP A 0 1 0 → h33.2.1 (111 + t2) k = bT A t2 k) ∧ Fr 111 115 h h33) (e := aP A 0 1 0 + 1) (fun aa33 h33 hI33 => ?_) (fun i33 aa33 h33 hi33 hI33 ih33 => ?_) 0 (()) _ (by omega) (⟨fun j hj => absurd hj (Nat.not_lt_zero j), fun t2 h1 h2 k hk => hJ2 t2 (by omega) h2 k hk, hJ3⟩)
        · show J _ _ _ _ _ [some (pR (some 103)), some (pR (some p)), some (pI (nI t)), some (pI (nI (aP A 0 1 0 + 1))), none] _ _ h33
          obtain ⟨hK2, hK3, hK4⟩ := hI33
          have hG := hK4.g hG0
          refine J_iload_n dX1_choose_41 rfl ?_
          refine J_aload_n dX1_choose_42 rfl ?_
          refine J_getI dX1_choose_43 fX1_27 hX.po.s (fun _ => rfl) ?_
          refine J_cvI (((hK4.i (by omega)).trans hX.cs)) ?_
          refine J_icmp_gtN dX1_choose_46 (by omega) (by omega) (fun c3 => ?_) (fun c3 => ?_)
          · refine J_iinc (L' := [some (pR (some 103)), some (pR (some p)), some (pI (nI t + (-1))), some (pI (nI (aP A 0 1 0 + 1))), none]) dX1_choose_101 rfl rfl (by decide) rfl ?_
            refine J_goto dX1_choose_104 ?_
            refine J_drop (L' := [some (pR (some 103)), some (pR (some p)), some (pI (nI t + (-1))), none, none]) 3 rfl ?_
            refine J_L (L' := [some (pR (some 103)), some (pR (some p)), some (pI (hlp t)), none, none]) (by rw [show nI t + -1 = hlp t from hlp_dec]) ?_
            have K := ih22 () _ ⟨fun t2 h1 h2 k hk => by
        by_cases q : t2 = t
        · subst q; exact hK2 k (by omega)
        · exact hK3 t2 (by omega) h2 k hk, hK4⟩
            rw [show aP A 0 3 0 - (i22 + 1) = t by omega] at K
            exact K
          · exact (show False by omega).elim
        · show J _ _ _ _ _ [some (pR (some 103)), some (pR (some p)), some (pI (nI t)), some (pI (nI i33)), none] _ _ h33
          obtain ⟨hK2, hK3, hK4⟩ := hI33
          have hG := hK4.g hG0
          have hs : ∀ q, q ≤ qm (aP A 2 t 0) i33 → h33.2.1 (105 + t) q + h33.2.1 (111 + (t + 1)) (i33 - q * aP A 2 t 0) = lfT A t i33 q := fun q hq => by
              rw [hK4.l (by omega), hsc t ht q (by have := qm_40 (aP A 2 t 0) i33; omega), hK3 (t + 1) (by omega) (by omega) _ (by omega)]
              rfl
          have hbl := bst_le (lfT A t i33) (qm (aP A 2 t 0) i33)
          have h40 := qm_40 (aP A 2 t 0) i33
          have hcr : bst (lfT A t i33) (qm (aP A 2 t 0) i33) * aP A 2 t 0 ≤ i33 := ((qm_le (by omega)).mp hbl).2
          refine J_iload_n dX1_choose_41 rfl ?_
          refine J_aload_n dX1_choose_42 rfl ?_
          refine J_getI dX1_choose_43 fX1_27 hX.po.s (fun _ => rfl) ?_
          refine J_cvI (((hK4.i (by omega)).trans hX.cs)) ?_
          refine J_icmp_gtN dX1_choose_46 (by omega) (by omega) (fun c4 => ?_) (fun c4 => ?_)
          · exact (show False by omega).elim
          · refine J_aload_n dX1_choose_49 rfl ?_
            refine J_iload_n dX1_choose_50 rfl ?_
            refine J_aload_n dX1_choose_51 rfl ?_
            refine J_getR (r := some (p + 7)) dX1_choose_52 fX1_36 hX.po.s (fun _ => rfl) (hX.po.e10 hG) ?_
            refine J_iload_n dX1_choose_55 rfl ?_
            refine J_aald4N (r := some (p + 9 + 7 * t)) dX1_choose_56 hX.po.s7 (by decide) (by omega) (hX.po.eth hG (by omega)) ?_
            refine J_getI dX1_choose_57 fX1_40 (hX.th hW ht).s (fun _ => rfl) ?_
            refine J_cvI (((hK4.i (by omega)).trans (hX.t ht (by decide)))) ?_
            refine J_iload_n dX1_choose_60 rfl ?_
            refine J_cVI (ci := 1) (c := 103) (as := [pI (nI t), pI (nI (aP A 2 t 0)), pI (nI i33)]) (st := []) dX1_choose_61 lX1_45 okX1_bestFor vX1_bestFor s103 (by decide) rfl rfl rfl (Nat.le_of_ble_eq_true rfl) ⟨Nat.le_of_ble_eq_true rfl, Nat.le_of_ble_eq_true rfl⟩ CR.f (c_X1_bestFor (f := lfT A t i33) hG (by omega) btr (by omega) hs) (fun vq5 gq5 eq5 => ?_)
            obtain ⟨rfl, fq5⟩ := eq5
            rw [fq5]
            refine J_istore (L' := [some (pR (some 103)), some (pR (some p)), some (pI (nI t)), some (pI (nI i33)), some (pI (nI (bst (lfT A t i33) (qm (aP A 2 t 0) i33))))]) dX1_choose_64 (by decide) rfl ?_
            refine J_aload_n dX1_choose_66 rfl ?_
            refine J_getR (r := some 110) dX1_choose_67 fX1_24 s103 (fun _ => rfl) (g103_3 hG) ?_
            refine J_iload_n dX1_choose_70 rfl ?_
            refine J_aald8N (r := some (111 + t)) dX1_choose_71 s110 (by decide) (by omega) (row110_e hG (by omega)) ?_
            refine J_iload_n dX1_choose_72 rfl ?_
            refine J_aload_n dX1_choose_73 rfl ?_
            refine J_iload_n dX1_choose_74 rfl ?_
            refine J_iload dX1_choose_75 rfl ?_
            refine J_iload_n dX1_choose_77 rfl ?_
            refine J_iload dX1_choose_78 rfl ?_
            refine J_aload_n dX1_choose_80 rfl ?_
            refine J_getR (r := some (p + 7)) dX1_choose_81 fX1_36 hX.po.s (fun _ => rfl) (hX.po.e10 hG) ?_
            refine J_iload_n dX1_choose_84 rfl ?_
            refine J_aald4N (r := some (p + 9 + 7 * t)) dX1_choose_85 hX.po.s7 (by decide) (by omega) (hX.po.eth hG (by omega)) ?_
            refine J_getI dX1_choose_86 fX1_40 (hX.th hW ht).s (fun _ => rfl) ?_
            refine J_cvI (((hK4.i (by omega)).trans (hX.t ht (by decide)))) ?_
            refine J_imulN dX1_choose_89 ?_
            refine J_isubN dX1_choose_90 (by omega) ?_
            refine J_cVL (ci := 1) (c := 103) (as := [pI (nI t), pI (nI (bst (lfT A t i33) (qm (aP A 2 t 0) i33))), pI (nI (i33 - bst (lfT A t i33) (qm (aP A 2 t 0) i33) * aP A 2 t 0))]) (st := [pI (nI i33), pR (some (111 + t))]) dX1_choose_91 lX1_49 okX1_sumWith vX1_sumWith s103 (by decide) rfl rfl rfl (Nat.le_of_ble_eq_true rfl) ⟨Nat.le_of_ble_eq_true rfl, Nat.le_of_ble_eq_true rfl⟩ CR.f (c_X1_sumWith hG (by omega) (by omega) (by omega)) (fun vq6 gq6 eq6 => ?_)
            obtain ⟨rfl, fq6⟩ := eq6
            rw [fq6]
            refine J_cvL (y := bT A t i33) ((hs _ hbl).trans (bT_eq ht).symm) ?_
            refine J_lastN dX1_choose_94 (sh111 (by omega)) (by decide) (by omega) ?_
            refine J_iincN (n := 1) (L' := [some (pR (some 103)), some (pR (some p)), some (pI (nI t)), some (pI (nI (i33 + 1))), some (pI (nI (bst (lfT A t i33) (qm (aP A 2 t 0) i33))))]) dX1_choose_95 rfl (by decide) rfl ?_
            refine J_goto dX1_choose_98 ?_
            refine J_drop (L' := [some (pR (some 103)), some (pR (some p)), some (pI (nI t)), some (pI (nI (i33 + 1))), none]) 4 rfl ?_
            exact ih33 () _ ⟨fun k hk => by
            by_cases q : k = i33
            · subst q; exact rL_s
            · exact (rL_k q).trans (hK2 k (by omega)), fun t2 h1 h2 k hk => (rL_c (by omega)).trans (hK3 t2 h1 h2 k hk), hK4.tr (Fr.sL (by omega) (by omega))⟩
    · exact (show False by omega).elim
  · show J _ _ _ _ _ [some (pR (some 103)), some (pR (some p)), some (pI (nI i1)), none, none] _ _ h1
    obtain ⟨hI2, hI3⟩ := hI1
    have hG := hI3.g hG0
    refine J_iload_n dX1_choose_2 rfl ?_
    refine J_aload_n dX1_choose_3 rfl ?_
    refine J_getI dX1_choose_4 fX1_27 hX.po.s (fun _ => rfl) ?_
    refine J_cvI (((hI3.i (by omega)).trans hX.cs)) ?_
    refine J_icmp_gtN dX1_choose_7 (by omega) (by omega) (fun c7 => ?_) (fun c7 => ?_)
    · exact (show False by omega).elim
    · refine J_aload_n dX1_choose_10 rfl ?_
      refine J_getR (r := some 110) dX1_choose_11 fX1_24 s103 (fun _ => rfl) (g103_3 hG) ?_
      refine J_aload_n dX1_choose_14 rfl ?_
      refine J_getI dX1_choose_15 fX1_33 hX.po.s (fun _ => rfl) ?_
      refine J_cvI (((hI3.i (by omega)).trans hX.tn)) ?_
      refine J_aald8N (r := some (111 + (aP A 0 3 0))) dX1_choose_18 s110 (by decide) (by omega) (row110_e hG (by omega)) ?_
      refine J_iload_n dX1_choose_19 rfl ?_
      refine J_lconst (x := 0) dX1_choose_20 rfl ?_
      refine J_lastN dX1_choose_21 (sh111 (by omega)) (by decide) (by omega) ?_
      refine J_iincN (n := 1) (L' := [some (pR (some 103)), some (pR (some p)), some (pI (nI (i1 + 1))), none, none]) dX1_choose_22 rfl (by decide) rfl ?_
      refine J_goto dX1_choose_25 ?_
      exact ih1 () _ ⟨fun j hj => by
        by_cases q : j = i1
        · subst q; exact rL_s
        · exact (rL_k q).trans (hI2 j (by omega)), hI3.tr (Fr.sL (by omega) (by omega))⟩
theorem c_X9_list_in {h : PH} {p : Nat} {A : AS} (hG : GR h.2.2) (hX : XI h p A) (hW : WF A) (hn : 0 < aP A 0 2 0) : CtL mX9_list h [pR (some 0)] (fun v h' => v = bT A 0 (aP A 0 1 0) ∧ XP h h' p (wLs A (1, chL A))) := by
  have bN := hW.1
  have bk := hW.wk
  have bc := hW.cs
  have bw := hW.wn
  have bt := hW.tn
  have bf := hW.fn
  have hX0 := hX
  have hG0 := hG
  refine Ct.of (L := [some (pR (some 0)), none]) rfl rfl (Nat.le_of_ble_eq_true rfl) rfl ?_
  refine J_aload_n dX9_list_0 rfl ?_
  refine J_getR (r := some p) dX9_list_1 fX9_20 s0 (fun _ => rfl) (hX.cu) ?_
  refine J_getI dX9_list_4 fX9_110 hX.po.s (fun _ => rfl) ?_
  refine J_cvI (hX.wn) ?_
  refine J_if_neN dX9_list_7 (by omega) (fun c1 => ?_) (fun c1 => ?_)
  · refine J_iconstN (n := 0) dX9_list_14 ?_
    refine J_istore_n (L' := [some (pR (some 0)), some (pI (nI 0))]) dX9_list_15 (by decide) rfl ?_
    refine J_L (L' := [some (pR (some 0)), some (pI (nI 0))]) rfl ?_
    refine J_forI (α := Unit) (L := fun i1 aa1 => [some (pR (some 0)), some (pI (nI i1))]) (fun i1 aa1 h1 => (∀ j, j < i1 → ∀ q, q < 41 → h1.2.1 (105 + j) q = sOf A j q) ∧ XFr h h1) (e := aP A 0 3 0) (fun aa1 h1 hI1 => ?_) (fun i1 aa1 h1 hi1 hI1 ih1 => ?_) 0 (()) _ (by omega) (⟨fun j hj => absurd hj (Nat.not_lt_zero j), XFr.rf⟩)
    · show J _ _ _ _ _ [some (pR (some 0)), some (pI (nI (aP A 0 3 0)))] _ _ h1
      obtain ⟨hI2, hQ⟩ := hI1
      have hX := hX0.xf hW hQ
      have hG := hQ.g hG0
      refine J_iload_n dX9_list_16 rfl ?_
      refine J_aload_n dX9_list_17 rfl ?_
      refine J_getR (r := some p) dX9_list_18 fX9_20 s0 (fun _ => rfl) (hX.cu) ?_
      refine J_getI dX9_list_21 fX9_113 hX.po.s (fun _ => rfl) ?_
      refine J_cvI (hX.tn) ?_
      refine J_icmp_geN dX9_list_24 (by omega) (by omega) (fun c2 => ?_) (fun c2 => ?_)
      · refine J_aload_n dX9_list_85 rfl ?_
        refine J_getR (r := some 103) dX9_list_86 fX9_51 s0 (fun _ => rfl) (g0_7 hG) ?_
        refine J_aload_n dX9_list_89 rfl ?_
        refine J_getR (r := some p) dX9_list_90 fX9_20 s0 (fun _ => rfl) (hX.cu) ?_
        refine J_cVL (ci := 1) (c := 103) (as := [pR (some p)]) (st := []) dX9_list_93 lX9_254 okX1_choose vX1_choose s103 (by decide) rfl rfl rfl (Nat.le_of_ble_eq_true rfl) ⟨Nat.le_of_ble_eq_true rfl, Nat.le_of_ble_eq_true rfl⟩ CR.f (c_X1_choose hG hX hW hI2) (fun v2 g2 e2 => ?_)
        obtain ⟨rfl, e3, e4, f4⟩ := e2
        exact J_retL dX9_list_96 rfl ⟨rfl, hX.ls hW (f4.mo (by decide) (by decide)) e3 e4, hQ.fr.tr (f4.mo (by decide) (by decide))⟩
      · exact (show False by omega).elim
    · show J _ _ _ _ _ [some (pR (some 0)), some (pI (nI i1))] _ _ h1
      obtain ⟨hI2, hQ⟩ := hI1
      have hX := hX0.xf hW hQ
      have hG := hQ.g hG0
      refine J_iload_n dX9_list_16 rfl ?_
      refine J_aload_n dX9_list_17 rfl ?_
      refine J_getR (r := some p) dX9_list_18 fX9_20 s0 (fun _ => rfl) (hX.cu) ?_
      refine J_getI dX9_list_21 fX9_113 hX.po.s (fun _ => rfl) ?_
      refine J_cvI (hX.tn) ?_
      refine J_icmp_geN dX9_list_24 (by omega) (by omega) (fun c3 => ?_) (fun c3 => ?_)
      · exact (show False by omega).elim
      · refine J_aload_n dX9_list_27 rfl ?_
        refine J_getR (r := some 92) dX9_list_28 fX9_37 s0 (fun _ => rfl) (g0_5 hG) ?_
        refine J_aload_n dX9_list_31 rfl ?_
        refine J_getR (r := some p) dX9_list_32 fX9_20 s0 (fun _ => rfl) (hX.cu) ?_
        refine J_aload_n dX9_list_35 rfl ?_
        refine J_getR (r := some p) dX9_list_36 fX9_20 s0 (fun _ => rfl) (hX.cu) ?_
        refine J_getR (r := some (p + 7)) dX9_list_39 fX9_133 hX.po.s (fun _ => rfl) (hX.po.e10 hG) ?_
        refine J_iload_n dX9_list_42 rfl ?_
        refine J_aald4N (r := some (p + 9 + 7 * i1)) dX9_list_43 hX.po.s7 (by decide) (by omega) (hX.po.eth hG (by omega)) ?_
        refine J_aload_n dX9_list_44 rfl ?_
        refine J_getR (r := some p) dX9_list_45 fX9_20 s0 (fun _ => rfl) (hX.cu) ?_
        refine J_getR (r := some (p + 1)) dX9_list_48 fX9_127 hX.po.s (fun _ => rfl) (hX.po.e8 hG) ?_
        refine J_bipush (x := nI 40) dX9_list_51 (by decide) ?_
        refine J_cVV (ci := 2) (c := 92) (as := [pR (some p), pR (some (p + 9 + 7 * i1)), pR (some (p + 1)), pI (nI 40)]) (st := []) dX9_list_53 lX9_228 okX2_scoreRow vX2_scoreRow s92 (by decide) rfl rfl rfl (Nat.le_of_ble_eq_true rfl) ⟨Nat.le_of_ble_eq_true rfl, Nat.le_of_ble_eq_true rfl⟩ CR.f (c_X2_scoreRow hG hX.po (hX.th hW hi1) (hX.ta hW hi1) hX.wn (by omega) hX.wk (by omega) ⟨hX.po.s1, by have := hX.po.b; omega⟩ (x := aX A) (fun w hw => hX.x hw) (u := aV A i1) (fun w hw => hX.wa hW hi1 (by omega)) (by omega)) (fun g1 e1 => ?_)
        obtain ⟨z1, f1⟩ := e1
        have hG := f1.g hG
        have hX := hX.fr hW f1 (by decide) (by decide)
        have hQ := hQ.tr (.of f1 (by decide) (by decide))
        refine J_aload_n dX9_list_56 rfl ?_
        refine J_getR (r := some 92) dX9_list_57 fX9_37 s0 (fun _ => rfl) (g0_5 hG) ?_
        refine J_getR (r := some 94) dX9_list_60 fX9_215 s92 (fun _ => rfl) (g92_1 hG) ?_
        refine J_iconstN (n := 0) dX9_list_63 ?_
        refine J_aload_n dX9_list_64 rfl ?_
        refine J_getR (r := some 103) dX9_list_65 fX9_51 s0 (fun _ => rfl) (g0_7 hG) ?_
        refine J_getR (r := some 104) dX9_list_68 fX9_244 s103 (fun _ => rfl) (g103_0 hG) ?_
        refine J_iload_n dX9_list_71 rfl ?_
        refine J_aald8N (r := some (105 + i1)) dX9_list_72 s104 (by decide) (by omega) (row104_e hG (by omega)) ?_
        refine J_iconstN (n := 0) dX9_list_73 ?_
        refine J_bipush (x := nI 41) dX9_list_74 (by decide) ?_
        refine J_cpyLN dX9_list_76 lX9_248 s94 (sh105 (by omega)) (by omega) (by omega) (by omega) (by omega) (by omega) (by decide) (Nat.le_of_ble_eq_true rfl) ?_
        refine J_iincN (n := 1) (L' := [some (pR (some 0)), some (pI (nI (i1 + 1)))]) dX9_list_79 rfl (by decide) rfl ?_
        refine J_goto dX9_list_82 ?_
        exact ih1 () _ ⟨fun j hj q hq => by
        by_cases z : j = i1
        · subst z
          rw [rWL_s]
          show (if 0 ≤ q ∧ q < 0 + 41 then g1.2.1 94 (0 + (q - 0)) else _) = _
          rw [if_pos (by omega), Nat.zero_add, Nat.sub_zero]
          exact (z1 q (by omega)).trans scR_sOf
        · rw [show (wL g1 (105 + i1) (va_cpy (g1.2.1 94) (g1.2.1 (105 + i1)) 0 0 41)).2.1 (105 + j) = g1.2.1 (105 + j) from rWL_c (by omega)]
          exact (f1.l (by omega)).trans (hI2 j (by omega) q hq), hQ.tr (XFr.o1 (lo := 105 + i1) (hi := 105 + i1) (Fr.wL (Nat.le_refl _) (Nat.le_refl _)) (by omega) (by omega))⟩
  · exact (show False by omega).elim
theorem c_X9_list_no {h : PH} {p : Nat} {A : AS} (hG : GR h.2.2) (hX : XI h p A) (hW : WF A) (hno : aP A 0 2 0 = 0) : CtL mX9_list h [pR (some 0)] (fun v h' => v = -9000000000000000000 ∧ XP h h' p A) := by
  have bN := hW.1
  have bk := hW.wk
  have bc := hW.cs
  have bw := hW.wn
  have bt := hW.tn
  have bf := hW.fn
  refine Ct.of (L := [some (pR (some 0)), none]) rfl rfl (Nat.le_of_ble_eq_true rfl) rfl ?_
  refine J_aload_n dX9_list_0 rfl ?_
  refine J_getR (r := some p) dX9_list_1 fX9_20 s0 (fun _ => rfl) (hX.cu) ?_
  refine J_getI dX9_list_4 fX9_110 hX.po.s (fun _ => rfl) ?_
  refine J_cvI (hX.wn) ?_
  refine J_if_neN dX9_list_7 (by omega) (fun c1 => ?_) (fun c1 => ?_)
  · exact (show False by omega).elim
  · refine J_ldc2 dX9_list_10 kX9_182 ?_
    exact J_retL dX9_list_13 rfl ⟨rfl, hX, Fr.rf⟩
theorem c_X9_list {h : PH} {p : Nat} {A : AS} (hG : GR h.2.2) (hX : XI h p A) (hW : WF A) : CtL mX9_list h [pR (some 0)] (fun v h' => v = listA A ∧ XP h h' p (listS A)) := by
  by_cases hn : aP A 0 2 0 = 0
  · rw [listA, listS, if_pos hn, if_pos hn]
    exact c_X9_list_no hG hX hW hn
  · rw [listA, listS, if_neg hn, if_neg hn]
    exact c_X9_list_in hG hX hW (Nat.pos_of_ne_zero hn)
