/-! ===== instead: the model ===== -/
theorem wkG {h g : PH} {a b c d : Int32} (z : g = sI (sI (sI (sI h 158 27 a) 158 28 b) 158 29 c) 158 31 d) : (g.1 158 27 = a ∧ g.1 158 28 = b ∧ g.1 158 29 = c ∧ g.1 158 31 = d) ∧ FG h g := by
  subst z
  exact ⟨⟨(rI_k (by decide)).trans ((rI_k (by decide)).trans ((rI_k (by decide)).trans rI_s)), (rI_k (by decide)).trans ((rI_k (by decide)).trans rI_s), (rI_k (by decide)).trans rI_s, rI_s⟩, (((FG.f (by decide) (by decide)).tr (FG.f (by decide) (by decide))).tr (FG.f (by decide) (by decide))).tr (FG.f (by decide) (by decide))⟩
theorem c_X10_pairIn {h : PH} {A : AS} {t b q r w : Nat} (hG : GR h.2.2) (hM : MI h A) (hW : WF A) (ht : t < aP A 0 3 0) (hb : b < aP A 0 3 0) (hz : aP A 4 t 0 ≠ 0) (hw : w < aP A 0 2 0) (hq : q ≤ 20) (hr : r ≤ 20) : CtL mX10_pairIn h [pR (some 158), pI (nI t), pI (nI b), pI (nI q), pI (nI r), pI (nI w)] (fun v h' => v = PB (qX A t w) (qX A b w) (brA A t) (aP A 0 0 0) (q * 21 + r) - lN (aP A 2 t 1 * q + aP A 2 b 1 * r) * tenL (2 * aP A 0 0 0) ∧ MFr h h') := by
  have bN := hW.1
  have bk := hW.wk
  have bc := hW.cs
  have bw := hW.wn
  have bt := hW.tn
  have bf := hW.fn
  have hM0 := hM
  have hG0 := hG
  obtain ⟨-, ba1, ba2, ba3, ba4, -⟩ := hW.t ht
  obtain ⟨-, bb1, bb2, bb3, bb4, -⟩ := hW.t hb
  have bp := hW.hq ht hz
  have rut := hW.ru ht
  have rub := hW.ru hb
  have hc1 : aP A 2 t 1 * q ≤ 99 * 20 := Nat.mul_le_mul ba1 hq
  have hc2 : aP A 2 b 1 * r ≤ 99 * 20 := Nat.mul_le_mul bb1 hr
  have hpp : aP A 2 t 2 * aP A 5 t 0 ≤ 99 * 100 := Nat.mul_le_mul ba2 bp
  have hbr : brA A t ≤ 99 := by unfold brA; omega
  have hcm : sm (pc (qX A t w) (qX A b w)) 16 = 100 := pc_sm (hW.us ht (by omega)) (hW.us hb (by omega))
  refine Ct.of (L := [some (pR (some 158)), some (pI (nI t)), some (pI (nI b)), some (pI (nI q)), some (pI (nI r)), some (pI (nI w)), none, none, none, none, none, none, none, none, none, none, none, none, none, none, none, none, none]) rfl rfl (Nat.le_of_ble_eq_true rfl) rfl ?_
  refine J_aload_n dX10_pairIn_0 rfl ?_
  refine J_getR (r := some 160) dX10_pairIn_1 fX10_17 s158 (fun _ => rfl) (g158_12 hG) ?_
  refine J_iconstN (n := 0) dX10_pairIn_4 ?_
  refine J_ialdN dX10_pairIn_5 s160 (by decide) (by omega) ?_
  refine J_cvI ((hM.nm (k := 0) (by decide))) ?_
  refine J_istore (L' := [some (pR (some 158)), some (pI (nI t)), some (pI (nI b)), some (pI (nI q)), some (pI (nI r)), some (pI (nI w)), some (pI (nI (aP A 0 0 0))), none, none, none, none, none, none, none, none, none, none, none, none, none, none, none, none]) dX10_pairIn_6 (by decide) rfl ?_
  refine J_aload_n dX10_pairIn_8 rfl ?_
  refine J_iload_n dX10_pairIn_9 rfl ?_
  refine J_iconstN (n := 2) dX10_pairIn_10 ?_
  refine J_cVI (ci := 10) (c := 158) (as := [pI (nI t), pI (nI 2)]) (st := []) dX10_pairIn_11 lX10_246 okX10_of vX10_of s158 (by decide) rfl rfl rfl (Nat.le_of_ble_eq_true rfl) ⟨Nat.le_of_ble_eq_true rfl, Nat.le_of_ble_eq_true rfl⟩ CR.f (c_X10_of hG (by omega) (by decide) (hM.t ht (by decide))) (fun vq1 gq1 eq1 => ?_)
  obtain ⟨rfl, fq1⟩ := eq1
  rw [fq1]
  refine J_aload_n dX10_pairIn_14 rfl ?_
  refine J_getR (r := some 169) dX10_pairIn_15 fX10_47 s158 (fun _ => rfl) (g158_21 hG) ?_
  refine J_iload_n dX10_pairIn_18 rfl ?_
  refine J_ialdN dX10_pairIn_19 s169 (by decide) (by omega) ?_
  refine J_cvI ((hM.h7 ht hz)) ?_
  refine J_imulN dX10_pairIn_20 ?_
  refine J_bipush (x := nI 100) dX10_pairIn_21 (by decide) ?_
  refine J_idivN dX10_pairIn_23 (by omega) (by omega) (by omega) ?_
  refine J_cvI (y := nI (brA A t)) rfl ?_
  refine J_istore (L' := [some (pR (some 158)), some (pI (nI t)), some (pI (nI b)), some (pI (nI q)), some (pI (nI r)), some (pI (nI w)), some (pI (nI (aP A 0 0 0))), some (pI (nI (brA A t))), none, none, none, none, none, none, none, none, none, none, none, none, none, none, none]) dX10_pairIn_24 (by decide) rfl ?_
  refine J_iconstN (n := 0) dX10_pairIn_26 ?_
  refine J_istore (L' := [some (pR (some 158)), some (pI (nI t)), some (pI (nI b)), some (pI (nI q)), some (pI (nI r)), some (pI (nI w)), some (pI (nI (aP A 0 0 0))), some (pI (nI (brA A t))), some (pI (nI 0)), none, none, none, none, none, none, none, none, none, none, none, none, none, none]) dX10_pairIn_27 (by decide) rfl ?_
  refine J_L (L' := [some (pR (some 158)), some (pI (nI t)), some (pI (nI b)), some (pI (nI q)), some (pI (nI r)), some (pI (nI w)), some (pI (nI (aP A 0 0 0))), some (pI (nI (brA A t))), some (pI (nI 0)), none, none, none, none, none, none, none, none, none, none, none, none, none, none]) rfl ?_
  refine J_forI (α := Unit) (L := fun i9 aa9 => [some (pR (some 158)), some (pI (nI t)), some (pI (nI b)), some (pI (nI q)), some (pI (nI r)), some (pI (nI w)), some (pI (nI (aP A 0 0 0))), some (pI (nI (brA A t))), some (pI (nI i9)), none, none, none, none, none, none, none, none, none, none, none, none, none, none]) (fun i9 aa9 h9 => (∀ j, j < i9 → h9.2.1 180 j = 0) ∧ MFr h h9) (e := 441) (fun aa9 h9 hI9 => ?_) (fun i9 aa9 h9 hi9 hI9 ih9 => ?_) 0 (()) _ (by omega) (⟨fun j hj => absurd hj (Nat.not_lt_zero j), MFr.rf⟩)
  · show J _ _ _ _ _ [some (pR (some 158)), some (pI (nI t)), some (pI (nI b)), some (pI (nI q)), some (pI (nI r)), some (pI (nI w)), some (pI (nI (aP A 0 0 0))), some (pI (nI (brA A t))), some (pI (nI 441)), none, none, none, none, none, none, none, none, none, none, none, none, none, none] _ _ h9
    obtain ⟨hI2, hQ⟩ := hI9
    have hM := hM0.mq hQ
    have hG := hQ.g hG0
    refine J_iload dX10_pairIn_29 rfl ?_
    refine J_sipush (x := nI 441) dX10_pairIn_31 (by decide) ?_
    refine J_icmp_geN dX10_pairIn_34 (by decide) (by decide) (fun c0 => ?_) (fun c0 => absurd c0 (by decide))
    refine J_aload_n dX10_pairIn_51 rfl ?_
    refine J_getR (r := some 180) dX10_pairIn_52 fX10_83 s158 (fun _ => rfl) (g158_44 hG) ?_
    refine J_bipush (x := nI 21) dX10_pairIn_55 (by decide) ?_
    refine J_iload_n dX10_pairIn_57 rfl ?_
    refine J_imulN dX10_pairIn_58 ?_
    refine J_iload dX10_pairIn_59 rfl ?_
    refine J_iaddN dX10_pairIn_61 ?_
    refine J_lconst (x := 1) dX10_pairIn_62 rfl ?_
    refine J_lastN dX10_pairIn_63 s180 (by decide) (by omega) ?_
    refine J_lconst (x := 0) dX10_pairIn_64 rfl ?_
    refine J_lstore (L' := [some (pR (some 158)), some (pI (nI t)), some (pI (nI b)), some (pI (nI q)), some (pI (nI r)), some (pI (nI w)), some (pI (nI (aP A 0 0 0))), some (pI (nI (brA A t))), some (pL 0), none, none, none, none, none, none, none, none, none, none, none, none, none, none]) dX10_pairIn_65 (by decide) rfl ?_
    refine J_iconstN (n := 0) dX10_pairIn_67 ?_
    refine J_istore (L' := [some (pR (some 158)), some (pI (nI t)), some (pI (nI b)), some (pI (nI q)), some (pI (nI r)), some (pI (nI w)), some (pI (nI (aP A 0 0 0))), some (pI (nI (brA A t))), some (pL 0), none, some (pI (nI 0)), none, none, none, none, none, none, none, none, none, none, none, none]) dX10_pairIn_68 (by decide) rfl ?_
    refine J_L (L' := [some (pR (some 158)), some (pI (nI t)), some (pI (nI b)), some (pI (nI q)), some (pI (nI r)), some (pI (nI w)), some (pI (nI (aP A 0 0 0))), some (pI (nI (brA A t))), some (pL (pM (qX A t w) (qX A b w) (brA A t) (q * 21 + r) (aP A 0 0 0) 0)), none, some (pI (nI 0)), none, none, none, none, none, none, none, none, none, none, none, none]) rfl ?_
    generalize hg : sL (h9) 180 (21 * q + r) 1 = g
    have hq0 : MFr h g := by rw [← hg]; exact hQ.tr (MFr.sl (by decide) (by decide) (by decide))
    have g0 : ∀ j, j < 441 → g.2.1 180 j = lN (pD (qX A t w) (qX A b w) (q * 21 + r) 0 j) := fun j hj => by
      rw [← hg]
      show _ = lN (if j = q * 21 + r then 1 else 0)
      by_cases z : j = q * 21 + r
      · rw [if_pos z, show j = 21 * q + r by omega]
        exact rL_s
      · rw [if_neg z]
        exact (rL_k (by omega)).trans (hI2 j hj)
    refine J_forI (α := Unit) (L := fun i1 aa1 => [some (pR (some 158)), some (pI (nI t)), some (pI (nI b)), some (pI (nI q)), some (pI (nI r)), some (pI (nI w)), some (pI (nI (aP A 0 0 0))), some (pI (nI (brA A t))), some (pL (pM (qX A t w) (qX A b w) (brA A t) (q * 21 + r) (aP A 0 0 0) i1)), none, some (pI (nI i1)), none, none, none, none, none, none, none, none, none, none, none, none]) (fun i1 aa1 h1 => (∀ j, j < 441 → h1.2.1 180 j = lN (pD (qX A t w) (qX A b w) (q * 21 + r) i1 j)) ∧ MFr h h1) (e := aP A 0 0 0) (fun aa1 h1 hI1 => ?_) (fun i1 aa1 h1 hi1 hI1 ih1 => ?_) 0 (()) _ (by omega) (⟨g0, hq0⟩)
    · show J _ _ _ _ _ [some (pR (some 158)), some (pI (nI t)), some (pI (nI b)), some (pI (nI q)), some (pI (nI r)), some (pI (nI w)), some (pI (nI (aP A 0 0 0))), some (pI (nI (brA A t))), some (pL (pM (qX A t w) (qX A b w) (brA A t) (q * 21 + r) (aP A 0 0 0) (aP A 0 0 0))), none, some (pI (nI (aP A 0 0 0))), none, none, none, none, none, none, none, none, none, none, none, none] _ _ h1
      obtain ⟨hJ2, hQ⟩ := hI1
      have hM := hM0.mq hQ
      have hG := hQ.g hG0
      refine J_iload dX10_pairIn_70 rfl ?_
      refine J_iload dX10_pairIn_72 rfl ?_
      refine J_icmp_geN dX10_pairIn_74 (by omega) (by omega) (fun c2 => ?_) (fun c2 => ?_)
      · refine J_iconstN (n := 0) dX10_pairIn_444 ?_
        refine J_istore (L' := [some (pR (some 158)), some (pI (nI t)), some (pI (nI b)), some (pI (nI q)), some (pI (nI r)), some (pI (nI w)), some (pI (nI (aP A 0 0 0))), some (pI (nI (brA A t))), some (pL (pM (qX A t w) (qX A b w) (brA A t) (q * 21 + r) (aP A 0 0 0) (aP A 0 0 0))), none, some (pI (nI 0)), none, none, none, none, none, none, none, none, none, none, none, none]) dX10_pairIn_445 (by decide) rfl ?_
        refine J_L (L' := [some (pR (some 158)), some (pI (nI t)), some (pI (nI b)), some (pI (nI q)), some (pI (nI r)), some (pI (nI w)), some (pI (nI (aP A 0 0 0))), some (pI (nI (brA A t))), some (pL (pM (qX A t w) (qX A b w) (brA A t) (q * 21 + r) (aP A 0 0 0) (aP A 0 0 0) + sL64 (fun k => lN (pD (qX A t w) (qX A b w) (q * 21 + r) (aP A 0 0 0) k) * pE (qX A t w) (qX A b w) k) 0)), none, some (pI (nI 0)), none, none, none, none, none, none, none, none, none, none, none, none]) (by rw [show sL64 (fun k => lN (pD (qX A t w) (qX A b w) (q * 21 + r) (aP A 0 0 0) k) * pE (qX A t w) (qX A b w) k) 0 = 0 from rfl, Int64.add_zero]) ?_
        refine J_for (L := fun i66 => [some (pR (some 158)), some (pI (nI t)), some (pI (nI b)), some (pI (nI q)), some (pI (nI r)), some (pI (nI w)), some (pI (nI (aP A 0 0 0))), some (pI (nI (brA A t))), some (pL (pM (qX A t w) (qX A b w) (brA A t) (q * 21 + r) (aP A 0 0 0) (aP A 0 0 0) + sL64 (fun k => lN (pD (qX A t w) (qX A b w) (q * 21 + r) (aP A 0 0 0) k) * pE (qX A t w) (qX A b w) k) i66)), none, some (pI (nI i66)), none, none, none, none, none, none, none, none, none, none, none, none]) (hf := fun i66 => h1) (e := 441) ?_ (fun i66 hi66 ih66 => ?_) 0 (by omega)
        · show J _ _ _ _ _ [some (pR (some 158)), some (pI (nI t)), some (pI (nI b)), some (pI (nI q)), some (pI (nI r)), some (pI (nI w)), some (pI (nI (aP A 0 0 0))), some (pI (nI (brA A t))), some (pL (pM (qX A t w) (qX A b w) (brA A t) (q * 21 + r) (aP A 0 0 0) (aP A 0 0 0) + sL64 (fun k => lN (pD (qX A t w) (qX A b w) (q * 21 + r) (aP A 0 0 0) k) * pE (qX A t w) (qX A b w) k) 441)), none, some (pI (nI 441)), none, none, none, none, none, none, none, none, none, none, none, none] _ _ (h1)
          refine J_iload dX10_pairIn_447 rfl ?_
          refine J_sipush (x := nI 441) dX10_pairIn_449 (by decide) ?_
          refine J_icmp_geN dX10_pairIn_452 (by decide) (by decide) (fun c0 => ?_) (fun c0 => absurd c0 (by decide))
          refine J_lload dX10_pairIn_500 rfl ?_
          refine J_aload_n dX10_pairIn_502 rfl ?_
          refine J_iload_n dX10_pairIn_503 rfl ?_
          refine J_iconstN (n := 1) dX10_pairIn_504 ?_
          refine J_cVI (ci := 10) (c := 158) (as := [pI (nI t), pI (nI 1)]) (st := [pL (pM (qX A t w) (qX A b w) (brA A t) (q * 21 + r) (aP A 0 0 0) (aP A 0 0 0) + sL64 (fun k => lN (pD (qX A t w) (qX A b w) (q * 21 + r) (aP A 0 0 0) k) * pE (qX A t w) (qX A b w) k) 441)]) dX10_pairIn_505 lX10_246 okX10_of vX10_of s158 (by decide) rfl rfl rfl (Nat.le_of_ble_eq_true rfl) ⟨Nat.le_of_ble_eq_true rfl, Nat.le_of_ble_eq_true rfl⟩ CR.f (c_X10_of hG (by omega) (by decide) (hM.t ht (by decide))) (fun vq3 gq3 eq3 => ?_)
          obtain ⟨rfl, fq3⟩ := eq3
          rw [fq3]
          refine J_iload_n dX10_pairIn_508 rfl ?_
          refine J_imulN dX10_pairIn_509 ?_
          refine J_aload_n dX10_pairIn_510 rfl ?_
          refine J_iload_n dX10_pairIn_511 rfl ?_
          refine J_iconstN (n := 1) dX10_pairIn_512 ?_
          refine J_cVI (ci := 10) (c := 158) (as := [pI (nI b), pI (nI 1)]) (st := [pI (nI (aP A 2 t 1 * q)), pL (pM (qX A t w) (qX A b w) (brA A t) (q * 21 + r) (aP A 0 0 0) (aP A 0 0 0) + sL64 (fun k => lN (pD (qX A t w) (qX A b w) (q * 21 + r) (aP A 0 0 0) k) * pE (qX A t w) (qX A b w) k) 441)]) dX10_pairIn_513 lX10_246 okX10_of vX10_of s158 (by decide) rfl rfl rfl (Nat.le_of_ble_eq_true rfl) ⟨Nat.le_of_ble_eq_true rfl, Nat.le_of_ble_eq_true rfl⟩ CR.f (c_X10_of hG (by omega) (by decide) (hM.t hb (by decide))) (fun vq4 gq4 eq4 => ?_)
          obtain ⟨rfl, fq4⟩ := eq4
          rw [fq4]
          refine J_iload dX10_pairIn_516 rfl ?_
          refine J_imulN dX10_pairIn_518 ?_
          refine J_iaddN dX10_pairIn_519 ?_
          refine J_i2lN dX10_pairIn_520 (by omega) ?_
          refine J_aload_n dX10_pairIn_521 rfl ?_
          refine J_iconstN (n := 2) dX10_pairIn_522 ?_
          refine J_iload dX10_pairIn_523 rfl ?_
          refine J_imulN dX10_pairIn_525 ?_
          refine J_cVL (ci := 10) (c := 158) (as := [pI (nI (2 * aP A 0 0 0))]) (st := [pL (lN (aP A 2 t 1 * q + aP A 2 b 1 * r)), pL (pM (qX A t w) (qX A b w) (brA A t) (q * 21 + r) (aP A 0 0 0) (aP A 0 0 0) + sL64 (fun k => lN (pD (qX A t w) (qX A b w) (q * 21 + r) (aP A 0 0 0) k) * pE (qX A t w) (qX A b w) k) 441)]) dX10_pairIn_526 lX10_290 okX10_tens vX10_tens s158 (by decide) rfl rfl rfl (Nat.le_of_ble_eq_true rfl) ⟨Nat.le_of_ble_eq_true rfl, Nat.le_of_ble_eq_true rfl⟩ CR.f (c_X10_tens (by omega)) (fun vq5 gq5 eq5 => ?_)
          obtain ⟨rfl, fq5⟩ := eq5
          rw [fq5]
          refine J_lmul dX10_pairIn_529 ?_
          refine J_lsub dX10_pairIn_530 ?_
          exact J_retL dX10_pairIn_531 rfl ⟨by rw [pdual (by omega)], hQ⟩
        · show J _ _ _ _ _ [some (pR (some 158)), some (pI (nI t)), some (pI (nI b)), some (pI (nI q)), some (pI (nI r)), some (pI (nI w)), some (pI (nI (aP A 0 0 0))), some (pI (nI (brA A t))), some (pL (pM (qX A t w) (qX A b w) (brA A t) (q * 21 + r) (aP A 0 0 0) (aP A 0 0 0) + sL64 (fun k => lN (pD (qX A t w) (qX A b w) (q * 21 + r) (aP A 0 0 0) k) * pE (qX A t w) (qX A b w) k) i66)), none, some (pI (nI i66)), none, none, none, none, none, none, none, none, none, none, none, none] _ _ (h1)
          have ma : aP A 2 t 4 * (i66 / 21) ≤ 99 * 20 := Nat.mul_le_mul ba4 (by omega)
          have mb : aP A 2 b 4 * (i66 % 21) ≤ 99 * 20 := Nat.mul_le_mul bb4 (by omega)
          refine J_iload dX10_pairIn_447 rfl ?_
          refine J_sipush (x := nI 441) dX10_pairIn_449 (by decide) ?_
          refine J_icmp_geN dX10_pairIn_452 (by omega) (by omega) (fun c6 => ?_) (fun c6 => ?_)
          · exact (show False by omega).elim
          · refine J_lload dX10_pairIn_455 rfl ?_
            refine J_aload_n dX10_pairIn_457 rfl ?_
            refine J_getR (r := some 180) dX10_pairIn_458 fX10_83 s158 (fun _ => rfl) (g158_44 hG) ?_
            refine J_iload dX10_pairIn_461 rfl ?_
            refine J_laldN dX10_pairIn_463 s180 (by decide) (by omega) ?_
            refine J_cvL ((hJ2 i66 hi66)) ?_
            refine J_aload_n dX10_pairIn_464 rfl ?_
            refine J_iload_n dX10_pairIn_465 rfl ?_
            refine J_iconstN (n := 4) dX10_pairIn_466 ?_
            refine J_cVI (ci := 10) (c := 158) (as := [pI (nI t), pI (nI 4)]) (st := [pL (lN (pD (qX A t w) (qX A b w) (q * 21 + r) (aP A 0 0 0) i66)), pL (pM (qX A t w) (qX A b w) (brA A t) (q * 21 + r) (aP A 0 0 0) (aP A 0 0 0) + sL64 (fun k => lN (pD (qX A t w) (qX A b w) (q * 21 + r) (aP A 0 0 0) k) * pE (qX A t w) (qX A b w) k) i66)]) dX10_pairIn_467 lX10_246 okX10_of vX10_of s158 (by decide) rfl rfl rfl (Nat.le_of_ble_eq_true rfl) ⟨Nat.le_of_ble_eq_true rfl, Nat.le_of_ble_eq_true rfl⟩ CR.f (c_X10_of hG (by omega) (by decide) (hM.t ht (by decide))) (fun vq7 gq7 eq7 => ?_)
            obtain ⟨rfl, fq7⟩ := eq7
            rw [fq7]
            refine J_iload dX10_pairIn_470 rfl ?_
            refine J_bipush (x := nI 21) dX10_pairIn_472 (by decide) ?_
            refine J_idivN dX10_pairIn_474 (by omega) (by omega) (by omega) ?_
            refine J_imulN dX10_pairIn_475 ?_
            refine J_aload_n dX10_pairIn_476 rfl ?_
            refine J_iload_n dX10_pairIn_477 rfl ?_
            refine J_iconstN (n := 4) dX10_pairIn_478 ?_
            refine J_cVI (ci := 10) (c := 158) (as := [pI (nI b), pI (nI 4)]) (st := [pI (nI (aP A 2 t 4 * (i66 / 21))), pL (lN (pD (qX A t w) (qX A b w) (q * 21 + r) (aP A 0 0 0) i66)), pL (pM (qX A t w) (qX A b w) (brA A t) (q * 21 + r) (aP A 0 0 0) (aP A 0 0 0) + sL64 (fun k => lN (pD (qX A t w) (qX A b w) (q * 21 + r) (aP A 0 0 0) k) * pE (qX A t w) (qX A b w) k) i66)]) dX10_pairIn_479 lX10_246 okX10_of vX10_of s158 (by decide) rfl rfl rfl (Nat.le_of_ble_eq_true rfl) ⟨Nat.le_of_ble_eq_true rfl, Nat.le_of_ble_eq_true rfl⟩ CR.f (c_X10_of hG (by omega) (by decide) (hM.t hb (by decide))) (fun vq8 gq8 eq8 => ?_)
            obtain ⟨rfl, fq8⟩ := eq8
            rw [fq8]
            refine J_iload dX10_pairIn_482 rfl ?_
            refine J_bipush (x := nI 21) dX10_pairIn_484 (by decide) ?_
            refine J_iremN dX10_pairIn_486 (by omega) (by omega) (by omega) ?_
            refine J_imulN dX10_pairIn_487 ?_
            refine J_iaddN dX10_pairIn_488 ?_
            refine J_i2lN dX10_pairIn_489 (by omega) ?_
            refine J_lmul dX10_pairIn_490 ?_
            refine J_cvL (lN_mul _ _) ?_
            refine J_ladd dX10_pairIn_491 ?_
            refine J_cvL (y := pM (qX A t w) (qX A b w) (brA A t) (q * 21 + r) (aP A 0 0 0) (aP A 0 0 0) + sL64 (fun k => lN (pD (qX A t w) (qX A b w) (q * 21 + r) (aP A 0 0 0) k) * pE (qX A t w) (qX A b w) k) (i66 + 1)) (by rw [← lN_mul, Int64.add_assoc]; rfl) ?_
            refine J_lstore (L' := [some (pR (some 158)), some (pI (nI t)), some (pI (nI b)), some (pI (nI q)), some (pI (nI r)), some (pI (nI w)), some (pI (nI (aP A 0 0 0))), some (pI (nI (brA A t))), some (pL (pM (qX A t w) (qX A b w) (brA A t) (q * 21 + r) (aP A 0 0 0) (aP A 0 0 0) + sL64 (fun k => lN (pD (qX A t w) (qX A b w) (q * 21 + r) (aP A 0 0 0) k) * pE (qX A t w) (qX A b w) k) (i66 + 1))), none, some (pI (nI i66)), none, none, none, none, none, none, none, none, none, none, none, none]) dX10_pairIn_492 (by decide) rfl ?_
            refine J_iincN (n := 1) (L' := [some (pR (some 158)), some (pI (nI t)), some (pI (nI b)), some (pI (nI q)), some (pI (nI r)), some (pI (nI w)), some (pI (nI (aP A 0 0 0))), some (pI (nI (brA A t))), some (pL (pM (qX A t w) (qX A b w) (brA A t) (q * 21 + r) (aP A 0 0 0) (aP A 0 0 0) + sL64 (fun k => lN (pD (qX A t w) (qX A b w) (q * 21 + r) (aP A 0 0 0) k) * pE (qX A t w) (qX A b w) k) (i66 + 1))), none, some (pI (nI (i66 + 1))), none, none, none, none, none, none, none, none, none, none, none, none]) dX10_pairIn_494 rfl (by decide) rfl ?_
            refine J_goto dX10_pairIn_497 ?_
            exact ih66
      · exact (show False by omega).elim
    · show J _ _ _ _ _ [some (pR (some 158)), some (pI (nI t)), some (pI (nI b)), some (pI (nI q)), some (pI (nI r)), some (pI (nI w)), some (pI (nI (aP A 0 0 0))), some (pI (nI (brA A t))), some (pL (pM (qX A t w) (qX A b w) (brA A t) (q * 21 + r) (aP A 0 0 0) i1)), none, some (pI (nI i1)), none, none, none, none, none, none, none, none, none, none, none, none] _ _ h1
      obtain ⟨hJ2, hQ⟩ := hI1
      have hM := hM0.mq hQ
      have hG := hQ.g hG0
      have hD : ∀ j, j < 441 → pD (qX A t w) (qX A b w) (q * 21 + r) i1 j ≤ 10000000000 := fun j hj => pD_b (by omega) hcm (by omega) hj
      refine J_iload dX10_pairIn_70 rfl ?_
      refine J_iload dX10_pairIn_72 rfl ?_
      refine J_icmp_geN dX10_pairIn_74 (by omega) (by omega) (fun c9 => ?_) (fun c9 => ?_)
      · exact (show False by omega).elim
      · refine J_aload_n dX10_pairIn_77 rfl ?_
        refine J_iconstN (n := 2) dX10_pairIn_78 ?_
        refine J_iload dX10_pairIn_79 rfl ?_
        refine J_iload dX10_pairIn_81 rfl ?_
        refine J_isubN dX10_pairIn_83 (by omega) ?_
        refine J_iconstN (n := 1) dX10_pairIn_84 ?_
        refine J_isubN dX10_pairIn_85 (by omega) ?_
        refine J_imulN dX10_pairIn_86 ?_
        refine J_cVL (ci := 10) (c := 158) (as := [pI (nI (2 * (aP A 0 0 0 - i1 - 1)))]) (st := []) dX10_pairIn_87 lX10_290 okX10_tens vX10_tens s158 (by decide) rfl rfl rfl (Nat.le_of_ble_eq_true rfl) ⟨Nat.le_of_ble_eq_true rfl, Nat.le_of_ble_eq_true rfl⟩ CR.f (c_X10_tens (by omega)) (fun vq10 gq10 eq10 => ?_)
        obtain ⟨rfl, fq10⟩ := eq10
        rw [fq10]
        refine J_lstore (L' := [some (pR (some 158)), some (pI (nI t)), some (pI (nI b)), some (pI (nI q)), some (pI (nI r)), some (pI (nI w)), some (pI (nI (aP A 0 0 0))), some (pI (nI (brA A t))), some (pL (pM (qX A t w) (qX A b w) (brA A t) (q * 21 + r) (aP A 0 0 0) i1)), none, some (pI (nI i1)), some (pL (tenL (2 * (aP A 0 0 0 - i1 - 1)))), none, none, none, none, none, none, none, none, none, none, none]) dX10_pairIn_90 (by decide) rfl ?_
        refine J_iconstN (n := 0) dX10_pairIn_92 ?_
        refine J_istore (L' := [some (pR (some 158)), some (pI (nI t)), some (pI (nI b)), some (pI (nI q)), some (pI (nI r)), some (pI (nI w)), some (pI (nI (aP A 0 0 0))), some (pI (nI (brA A t))), some (pL (pM (qX A t w) (qX A b w) (brA A t) (q * 21 + r) (aP A 0 0 0) i1)), none, some (pI (nI i1)), some (pL (tenL (2 * (aP A 0 0 0 - i1 - 1)))), none, some (pI (nI 0)), none, none, none, none, none, none, none, none, none]) dX10_pairIn_93 (by decide) rfl ?_
        refine J_L (L' := [some (pR (some 158)), some (pI (nI t)), some (pI (nI b)), some (pI (nI q)), some (pI (nI r)), some (pI (nI w)), some (pI (nI (aP A 0 0 0))), some (pI (nI (brA A t))), some (pL (pM (qX A t w) (qX A b w) (brA A t) (q * 21 + r) (aP A 0 0 0) i1)), none, some (pI (nI i1)), some (pL ((tenL (2 * (aP A 0 0 0 - i1 - 1))))), none, some (pI (nI 0)), none, none, none, none, none, none, none, none, none]) rfl ?_
        refine J_forI (α := Unit) (L := fun i22 aa22 => [some (pR (some 158)), some (pI (nI t)), some (pI (nI b)), some (pI (nI q)), some (pI (nI r)), some (pI (nI w)), some (pI (nI (aP A 0 0 0))), some (pI (nI (brA A t))), some (pL (pM (qX A t w) (qX A b w) (brA A t) (q * 21 + r) (aP A 0 0 0) i1)), none, some (pI (nI i1)), some (pL ((tenL (2 * (aP A 0 0 0 - i1 - 1))))), none, some (pI (nI i22)), none, none, none, none, none, none, none, none, none]) (fun i22 aa22 h22 => (∀ j, j < i22 → h22.2.1 181 j = 0) ∧ (∀ j, j < 441 → h22.2.1 180 j = lN (pD (qX A t w) (qX A b w) (q * 21 + r) i1 j)) ∧ MFr h h22) (e := 441) (fun aa22 h22 hI22 => ?_) (fun i22 aa22 h22 hi22 hI22 ih22 => ?_) 0 (()) _ (by omega) (⟨fun j hj => absurd hj (Nat.not_lt_zero j), hJ2, hQ⟩)
        · show J _ _ _ _ _ [some (pR (some 158)), some (pI (nI t)), some (pI (nI b)), some (pI (nI q)), some (pI (nI r)), some (pI (nI w)), some (pI (nI (aP A 0 0 0))), some (pI (nI (brA A t))), some (pL (pM (qX A t w) (qX A b w) (brA A t) (q * 21 + r) (aP A 0 0 0) i1)), none, some (pI (nI i1)), some (pL ((tenL (2 * (aP A 0 0 0 - i1 - 1))))), none, some (pI (nI 441)), none, none, none, none, none, none, none, none, none] _ _ h22
          obtain ⟨hK2, hK3, hQ⟩ := hI22
          have hM := hM0.mq hQ
          have hG := hQ.g hG0
          refine J_iload dX10_pairIn_95 rfl ?_
          refine J_sipush (x := nI 441) dX10_pairIn_97 (by decide) ?_
          refine J_icmp_geN dX10_pairIn_100 (by decide) (by decide) (fun c0 => ?_) (fun c0 => absurd c0 (by decide))
          refine J_iconstN (n := 0) dX10_pairIn_117 ?_
          refine J_istore (L' := [some (pR (some 158)), some (pI (nI t)), some (pI (nI b)), some (pI (nI q)), some (pI (nI r)), some (pI (nI w)), some (pI (nI (aP A 0 0 0))), some (pI (nI (brA A t))), some (pL (pM (qX A t w) (qX A b w) (brA A t) (q * 21 + r) (aP A 0 0 0) i1)), none, some (pI (nI i1)), some (pL ((tenL (2 * (aP A 0 0 0 - i1 - 1))))), none, some (pI (nI 0)), none, none, none, none, none, none, none, none, none]) dX10_pairIn_118 (by decide) rfl ?_
          refine J_L (L' := [some (pR (some 158)), some (pI (nI t)), some (pI (nI b)), some (pI (nI q)), some (pI (nI r)), some (pI (nI w)), some (pI (nI (aP A 0 0 0))), some (pI (nI (brA A t))), some (pL (gmO (pGm (qX A t w) (qX A b w) (brA A t)) (pc (qX A t w) (qX A b w)) (pD (qX A t w) (qX A b w) (q * 21 + r) i1) (tenL (2 * (aP A 0 0 0 - i1 - 1))) (pM (qX A t w) (qX A b w) (brA A t) (q * 21 + r) (aP A 0 0 0) i1) 0)), none, some (pI (nI i1)), some (pL ((tenL (2 * (aP A 0 0 0 - i1 - 1))))), none, some (pI (nI 0)), none, none, none, none, none, none, none, none, none]) rfl ?_
          refine J_forI (α := Unit) (L := fun i33 aa33 => [some (pR (some 158)), some (pI (nI t)), some (pI (nI b)), some (pI (nI q)), some (pI (nI r)), some (pI (nI w)), some (pI (nI (aP A 0 0 0))), some (pI (nI (brA A t))), some (pL (gmO (pGm (qX A t w) (qX A b w) (brA A t)) (pc (qX A t w) (qX A b w)) (pD (qX A t w) (qX A b w) (q * 21 + r) i1) (tenL (2 * (aP A 0 0 0 - i1 - 1))) (pM (qX A t w) (qX A b w) (brA A t) (q * 21 + r) (aP A 0 0 0) i1) i33)), none, some (pI (nI i1)), some (pL ((tenL (2 * (aP A 0 0 0 - i1 - 1))))), none, some (pI (nI i33)), none, none, none, none, none, none, none, none, none]) (fun i33 aa33 h33 => (∀ j, j < 441 → h33.2.1 181 j = lN (gO (pNm (qX A t w) (qX A b w)) (pc (qX A t w) (qX A b w)) (pD (qX A t w) (qX A b w) (q * 21 + r) i1) i33 j)) ∧ (∀ j, j < 441 → h33.2.1 180 j = lN (pD (qX A t w) (qX A b w) (q * 21 + r) i1 j)) ∧ MFr h h33) (e := 441) (fun aa33 h33 hI33 => ?_) (fun i33 aa33 h33 hi33 hI33 ih33 => ?_) 0 (()) _ (by omega) (⟨hK2, hK3, hQ⟩)
          · show J _ _ _ _ _ [some (pR (some 158)), some (pI (nI t)), some (pI (nI b)), some (pI (nI q)), some (pI (nI r)), some (pI (nI w)), some (pI (nI (aP A 0 0 0))), some (pI (nI (brA A t))), some (pL (gmO (pGm (qX A t w) (qX A b w) (brA A t)) (pc (qX A t w) (qX A b w)) (pD (qX A t w) (qX A b w) (q * 21 + r) i1) (tenL (2 * (aP A 0 0 0 - i1 - 1))) (pM (qX A t w) (qX A b w) (brA A t) (q * 21 + r) (aP A 0 0 0) i1) 441)), none, some (pI (nI i1)), some (pL ((tenL (2 * (aP A 0 0 0 - i1 - 1))))), none, some (pI (nI 441)), none, none, none, none, none, none, none, none, none] _ _ h33
            obtain ⟨hL2, hL3, hQ⟩ := hI33
            have hM := hM0.mq hQ
            have hG := hQ.g hG0
            refine J_iload dX10_pairIn_120 rfl ?_
            refine J_sipush (x := nI 441) dX10_pairIn_122 (by decide) ?_
            refine J_icmp_geN dX10_pairIn_125 (by decide) (by decide) (fun c0 => ?_) (fun c0 => absurd c0 (by decide))
            refine J_iconstN (n := 0) dX10_pairIn_407 ?_
            refine J_istore (L' := [some (pR (some 158)), some (pI (nI t)), some (pI (nI b)), some (pI (nI q)), some (pI (nI r)), some (pI (nI w)), some (pI (nI (aP A 0 0 0))), some (pI (nI (brA A t))), some (pL (gmO (pGm (qX A t w) (qX A b w) (brA A t)) (pc (qX A t w) (qX A b w)) (pD (qX A t w) (qX A b w) (q * 21 + r) i1) (tenL (2 * (aP A 0 0 0 - i1 - 1))) (pM (qX A t w) (qX A b w) (brA A t) (q * 21 + r) (aP A 0 0 0) i1) 441)), none, some (pI (nI i1)), some (pL ((tenL (2 * (aP A 0 0 0 - i1 - 1))))), none, some (pI (nI 0)), none, none, none, none, none, none, none, none, none]) dX10_pairIn_408 (by decide) rfl ?_
            refine J_L (L' := [some (pR (some 158)), some (pI (nI t)), some (pI (nI b)), some (pI (nI q)), some (pI (nI r)), some (pI (nI w)), some (pI (nI (aP A 0 0 0))), some (pI (nI (brA A t))), some (pL (gmO (pGm (qX A t w) (qX A b w) (brA A t)) (pc (qX A t w) (qX A b w)) (pD (qX A t w) (qX A b w) (q * 21 + r) i1) (tenL (2 * (aP A 0 0 0 - i1 - 1))) (pM (qX A t w) (qX A b w) (brA A t) (q * 21 + r) (aP A 0 0 0) i1) 441)), none, some (pI (nI i1)), some (pL ((tenL (2 * (aP A 0 0 0 - i1 - 1))))), none, some (pI (nI 0)), none, none, none, none, none, none, none, none, none]) rfl ?_
            refine J_forI (α := Unit) (L := fun i55 aa55 => [some (pR (some 158)), some (pI (nI t)), some (pI (nI b)), some (pI (nI q)), some (pI (nI r)), some (pI (nI w)), some (pI (nI (aP A 0 0 0))), some (pI (nI (brA A t))), some (pL (gmO (pGm (qX A t w) (qX A b w) (brA A t)) (pc (qX A t w) (qX A b w)) (pD (qX A t w) (qX A b w) (q * 21 + r) i1) (tenL (2 * (aP A 0 0 0 - i1 - 1))) (pM (qX A t w) (qX A b w) (brA A t) (q * 21 + r) (aP A 0 0 0) i1) 441)), none, some (pI (nI i1)), some (pL ((tenL (2 * (aP A 0 0 0 - i1 - 1))))), none, some (pI (nI i55)), none, none, none, none, none, none, none, none, none]) (fun i55 aa55 h55 => (∀ j, j < i55 → h55.2.1 180 j = lN (gO (pNm (qX A t w) (qX A b w)) (pc (qX A t w) (qX A b w)) (pD (qX A t w) (qX A b w) (q * 21 + r) i1) 441 j)) ∧ (∀ j, j < 441 → h55.2.1 181 j = lN (gO (pNm (qX A t w) (qX A b w)) (pc (qX A t w) (qX A b w)) (pD (qX A t w) (qX A b w) (q * 21 + r) i1) 441 j)) ∧ MFr h h55) (e := 441) (fun aa55 h55 hI55 => ?_) (fun i55 aa55 h55 hi55 hI55 ih55 => ?_) 0 (()) _ (by omega) (⟨fun j hj => absurd hj (Nat.not_lt_zero j), hL2, hQ⟩)
            · show J _ _ _ _ _ [some (pR (some 158)), some (pI (nI t)), some (pI (nI b)), some (pI (nI q)), some (pI (nI r)), some (pI (nI w)), some (pI (nI (aP A 0 0 0))), some (pI (nI (brA A t))), some (pL (gmO (pGm (qX A t w) (qX A b w) (brA A t)) (pc (qX A t w) (qX A b w)) (pD (qX A t w) (qX A b w) (q * 21 + r) i1) (tenL (2 * (aP A 0 0 0 - i1 - 1))) (pM (qX A t w) (qX A b w) (brA A t) (q * 21 + r) (aP A 0 0 0) i1) 441)), none, some (pI (nI i1)), some (pL ((tenL (2 * (aP A 0 0 0 - i1 - 1))))), none, some (pI (nI 441)), none, none, none, none, none, none, none, none, none] _ _ h55
              obtain ⟨hN2, hN3, hN4⟩ := hI55
              have hM := hM0.mq hN4
              have hG := hN4.g hG0
              refine J_iload dX10_pairIn_410 rfl ?_
              refine J_sipush (x := nI 441) dX10_pairIn_412 (by decide) ?_
              refine J_icmp_geN dX10_pairIn_415 (by decide) (by decide) (fun c0 => ?_) (fun c0 => absurd c0 (by decide))
              refine J_iincN (n := 1) (L' := [some (pR (some 158)), some (pI (nI t)), some (pI (nI b)), some (pI (nI q)), some (pI (nI r)), some (pI (nI w)), some (pI (nI (aP A 0 0 0))), some (pI (nI (brA A t))), some (pL (gmO (pGm (qX A t w) (qX A b w) (brA A t)) (pc (qX A t w) (qX A b w)) (pD (qX A t w) (qX A b w) (q * 21 + r) i1) (tenL (2 * (aP A 0 0 0 - i1 - 1))) (pM (qX A t w) (qX A b w) (brA A t) (q * 21 + r) (aP A 0 0 0) i1) 441)), none, some (pI (nI (i1 + 1))), some (pL ((tenL (2 * (aP A 0 0 0 - i1 - 1))))), none, some (pI (nI 441)), none, none, none, none, none, none, none, none, none]) dX10_pairIn_438 rfl (by decide) rfl ?_
              refine J_goto dX10_pairIn_441 ?_
              refine J_drop (L' := [some (pR (some 158)), some (pI (nI t)), some (pI (nI b)), some (pI (nI q)), some (pI (nI r)), some (pI (nI w)), some (pI (nI (aP A 0 0 0))), some (pI (nI (brA A t))), some (pL (gmO (pGm (qX A t w) (qX A b w) (brA A t)) (pc (qX A t w) (qX A b w)) (pD (qX A t w) (qX A b w) (q * 21 + r) i1) (tenL (2 * (aP A 0 0 0 - i1 - 1))) (pM (qX A t w) (qX A b w) (brA A t) (q * 21 + r) (aP A 0 0 0) i1) 441)), none, some (pI (nI (i1 + 1))), none, none, some (pI (nI 441)), none, none, none, none, none, none, none, none, none]) 11 rfl ?_
              refine J_drop (L' := [some (pR (some 158)), some (pI (nI t)), some (pI (nI b)), some (pI (nI q)), some (pI (nI r)), some (pI (nI w)), some (pI (nI (aP A 0 0 0))), some (pI (nI (brA A t))), some (pL (gmO (pGm (qX A t w) (qX A b w) (brA A t)) (pc (qX A t w) (qX A b w)) (pD (qX A t w) (qX A b w) (q * 21 + r) i1) (tenL (2 * (aP A 0 0 0 - i1 - 1))) (pM (qX A t w) (qX A b w) (brA A t) (q * 21 + r) (aP A 0 0 0) i1) 441)), none, some (pI (nI (i1 + 1))), none, none, none, none, none, none, none, none, none, none, none, none]) 13 rfl ?_
              refine J_L (L' := [some (pR (some 158)), some (pI (nI t)), some (pI (nI b)), some (pI (nI q)), some (pI (nI r)), some (pI (nI w)), some (pI (nI (aP A 0 0 0))), some (pI (nI (brA A t))), some (pL (pM (qX A t w) (qX A b w) (brA A t) (q * 21 + r) (aP A 0 0 0) (i1 + 1))), none, some (pI (nI (i1 + 1))), none, none, none, none, none, none, none, none, none, none, none, none]) rfl ?_
              exact ih1 () _ ⟨hN2, hN4⟩
            · show J _ _ _ _ _ [some (pR (some 158)), some (pI (nI t)), some (pI (nI b)), some (pI (nI q)), some (pI (nI r)), some (pI (nI w)), some (pI (nI (aP A 0 0 0))), some (pI (nI (brA A t))), some (pL (gmO (pGm (qX A t w) (qX A b w) (brA A t)) (pc (qX A t w) (qX A b w)) (pD (qX A t w) (qX A b w) (q * 21 + r) i1) (tenL (2 * (aP A 0 0 0 - i1 - 1))) (pM (qX A t w) (qX A b w) (brA A t) (q * 21 + r) (aP A 0 0 0) i1) 441)), none, some (pI (nI i1)), some (pL ((tenL (2 * (aP A 0 0 0 - i1 - 1))))), none, some (pI (nI i55)), none, none, none, none, none, none, none, none, none] _ _ h55
              obtain ⟨hN2, hN3, hN4⟩ := hI55
              have hM := hM0.mq hN4
              have hG := hN4.g hG0
              refine J_iload dX10_pairIn_410 rfl ?_
              refine J_sipush (x := nI 441) dX10_pairIn_412 (by decide) ?_
              refine J_icmp_geN dX10_pairIn_415 (by omega) (by omega) (fun c11 => ?_) (fun c11 => ?_)
              · exact (show False by omega).elim
              · refine J_aload_n dX10_pairIn_418 rfl ?_
                refine J_getR (r := some 180) dX10_pairIn_419 fX10_83 s158 (fun _ => rfl) (g158_44 hG) ?_
                refine J_iload dX10_pairIn_422 rfl ?_
                refine J_aload_n dX10_pairIn_424 rfl ?_
                refine J_getR (r := some 181) dX10_pairIn_425 fX10_86 s158 (fun _ => rfl) (g158_45 hG) ?_
                refine J_iload dX10_pairIn_428 rfl ?_
                refine J_laldN dX10_pairIn_430 s181 (by decide) (by omega) ?_
                refine J_cvL ((hN3 i55 hi55)) ?_
                refine J_lastN dX10_pairIn_431 s180 (by decide) (by omega) ?_
                refine J_iincN (n := 1) (L' := [some (pR (some 158)), some (pI (nI t)), some (pI (nI b)), some (pI (nI q)), some (pI (nI r)), some (pI (nI w)), some (pI (nI (aP A 0 0 0))), some (pI (nI (brA A t))), some (pL (gmO (pGm (qX A t w) (qX A b w) (brA A t)) (pc (qX A t w) (qX A b w)) (pD (qX A t w) (qX A b w) (q * 21 + r) i1) (tenL (2 * (aP A 0 0 0 - i1 - 1))) (pM (qX A t w) (qX A b w) (brA A t) (q * 21 + r) (aP A 0 0 0) i1) 441)), none, some (pI (nI i1)), some (pL ((tenL (2 * (aP A 0 0 0 - i1 - 1))))), none, some (pI (nI (i55 + 1))), none, none, none, none, none, none, none, none, none]) dX10_pairIn_432 rfl (by decide) rfl ?_
                refine J_goto dX10_pairIn_435 ?_
                exact ih55 () _ ⟨fun j hj => by
            by_cases z : j = i55
            · subst z; exact rL_s
            · exact (rL_k z).trans (hN2 j (by omega)), fun j hj => (rL_c (by decide)).trans (hN3 j hj), hN4.tr (MFr.sl (by decide) (by decide) (by decide))⟩
          · show J _ _ _ _ _ [some (pR (some 158)), some (pI (nI t)), some (pI (nI b)), some (pI (nI q)), some (pI (nI r)), some (pI (nI w)), some (pI (nI (aP A 0 0 0))), some (pI (nI (brA A t))), some (pL (gmO (pGm (qX A t w) (qX A b w) (brA A t)) (pc (qX A t w) (qX A b w)) (pD (qX A t w) (qX A b w) (q * 21 + r) i1) (tenL (2 * (aP A 0 0 0 - i1 - 1))) (pM (qX A t w) (qX A b w) (brA A t) (q * 21 + r) (aP A 0 0 0) i1) i33)), none, some (pI (nI i1)), some (pL ((tenL (2 * (aP A 0 0 0 - i1 - 1))))), none, some (pI (nI i33)), none, none, none, none, none, none, none, none, none] _ _ h33
            obtain ⟨hL2, hL3, hQ⟩ := hI33
            have hM := hM0.mq hQ
            have hG := hQ.g hG0
            have hDk := hD i33 hi33
            refine J_iload dX10_pairIn_120 rfl ?_
            refine J_sipush (x := nI 441) dX10_pairIn_122 (by decide) ?_
            refine J_icmp_geN dX10_pairIn_125 (by omega) (by omega) (fun c12 => ?_) (fun c12 => ?_)
            · exact (show False by omega).elim
            · refine J_iconstN (n := 0) dX10_pairIn_128 ?_
              refine J_istore (L' := [some (pR (some 158)), some (pI (nI t)), some (pI (nI b)), some (pI (nI q)), some (pI (nI r)), some (pI (nI w)), some (pI (nI (aP A 0 0 0))), some (pI (nI (brA A t))), some (pL (gmO (pGm (qX A t w) (qX A b w) (brA A t)) (pc (qX A t w) (qX A b w)) (pD (qX A t w) (qX A b w) (q * 21 + r) i1) (tenL (2 * (aP A 0 0 0 - i1 - 1))) (pM (qX A t w) (qX A b w) (brA A t) (q * 21 + r) (aP A 0 0 0) i1) i33)), none, some (pI (nI i1)), some (pL ((tenL (2 * (aP A 0 0 0 - i1 - 1))))), none, some (pI (nI i33)), some (pI (nI 0)), none, none, none, none, none, none, none, none]) dX10_pairIn_129 (by decide) rfl ?_
              refine J_L (L' := [some (pR (some 158)), some (pI (nI t)), some (pI (nI b)), some (pI (nI q)), some (pI (nI r)), some (pI (nI w)), some (pI (nI (aP A 0 0 0))), some (pI (nI (brA A t))), some (pL (gmI (pGm (qX A t w) (qX A b w) (brA A t)) (pc (qX A t w) (qX A b w)) (pD (qX A t w) (qX A b w) (q * 21 + r) i1) (tenL (2 * (aP A 0 0 0 - i1 - 1))) i33 (gmO (pGm (qX A t w) (qX A b w) (brA A t)) (pc (qX A t w) (qX A b w)) (pD (qX A t w) (qX A b w) (q * 21 + r) i1) (tenL (2 * (aP A 0 0 0 - i1 - 1))) (pM (qX A t w) (qX A b w) (brA A t) (q * 21 + r) (aP A 0 0 0) i1) i33) 0)), none, some (pI (nI i1)), some (pL ((tenL (2 * (aP A 0 0 0 - i1 - 1))))), none, some (pI (nI i33)), some (pI (nI 0)), none, none, none, none, none, none, none, none]) rfl ?_
              refine J_forI (α := Unit) (L := fun i44 aa44 => [some (pR (some 158)), some (pI (nI t)), some (pI (nI b)), some (pI (nI q)), some (pI (nI r)), some (pI (nI w)), some (pI (nI (aP A 0 0 0))), some (pI (nI (brA A t))), some (pL (gmI (pGm (qX A t w) (qX A b w) (brA A t)) (pc (qX A t w) (qX A b w)) (pD (qX A t w) (qX A b w) (q * 21 + r) i1) (tenL (2 * (aP A 0 0 0 - i1 - 1))) i33 (gmO (pGm (qX A t w) (qX A b w) (brA A t)) (pc (qX A t w) (qX A b w)) (pD (qX A t w) (qX A b w) (q * 21 + r) i1) (tenL (2 * (aP A 0 0 0 - i1 - 1))) (pM (qX A t w) (qX A b w) (brA A t) (q * 21 + r) (aP A 0 0 0) i1) i33) i44)), none, some (pI (nI i1)), some (pL ((tenL (2 * (aP A 0 0 0 - i1 - 1))))), none, some (pI (nI i33)), some (pI (nI i44)), none, none, none, none, none, none, none, none]) (fun i44 aa44 h44 => (∀ j, j < 441 → h44.2.1 181 j = lN (gI (pNm (qX A t w) (qX A b w)) (pc (qX A t w) (qX A b w)) (pD (qX A t w) (qX A b w) (q * 21 + r) i1) i33 (gO (pNm (qX A t w) (qX A b w)) (pc (qX A t w) (qX A b w)) (pD (qX A t w) (qX A b w) (q * 21 + r) i1) i33) i44 j)) ∧ (∀ j, j < 441 → h44.2.1 180 j = lN (pD (qX A t w) (qX A b w) (q * 21 + r) i1 j)) ∧ MFr h h44) (e := 16) (fun aa44 h44 hI44 => ?_) (fun i44 aa44 h44 hi44 hI44 ih44 => ?_) 0 (()) _ (by omega) (⟨hL2, hL3, hQ⟩)
              · show J _ _ _ _ _ [some (pR (some 158)), some (pI (nI t)), some (pI (nI b)), some (pI (nI q)), some (pI (nI r)), some (pI (nI w)), some (pI (nI (aP A 0 0 0))), some (pI (nI (brA A t))), some (pL (gmI (pGm (qX A t w) (qX A b w) (brA A t)) (pc (qX A t w) (qX A b w)) (pD (qX A t w) (qX A b w) (q * 21 + r) i1) (tenL (2 * (aP A 0 0 0 - i1 - 1))) i33 (gmO (pGm (qX A t w) (qX A b w) (brA A t)) (pc (qX A t w) (qX A b w)) (pD (qX A t w) (qX A b w) (q * 21 + r) i1) (tenL (2 * (aP A 0 0 0 - i1 - 1))) (pM (qX A t w) (qX A b w) (brA A t) (q * 21 + r) (aP A 0 0 0) i1) i33) 16)), none, some (pI (nI i1)), some (pL ((tenL (2 * (aP A 0 0 0 - i1 - 1))))), none, some (pI (nI i33)), some (pI (nI 16)), none, none, none, none, none, none, none, none] _ _ h44
                obtain ⟨hM2, hM3, hQ⟩ := hI44
                have hM := hM0.mq hQ
                have hG := hQ.g hG0
                refine J_iload dX10_pairIn_131 rfl ?_
                refine J_bipush (x := nI 16) dX10_pairIn_133 (by decide) ?_
                refine J_icmp_geN dX10_pairIn_135 (by decide) (by decide) (fun c0 => ?_) (fun c0 => absurd c0 (by decide))
                refine J_iincN (n := 1) (L' := [some (pR (some 158)), some (pI (nI t)), some (pI (nI b)), some (pI (nI q)), some (pI (nI r)), some (pI (nI w)), some (pI (nI (aP A 0 0 0))), some (pI (nI (brA A t))), some (pL (gmI (pGm (qX A t w) (qX A b w) (brA A t)) (pc (qX A t w) (qX A b w)) (pD (qX A t w) (qX A b w) (q * 21 + r) i1) (tenL (2 * (aP A 0 0 0 - i1 - 1))) i33 (gmO (pGm (qX A t w) (qX A b w) (brA A t)) (pc (qX A t w) (qX A b w)) (pD (qX A t w) (qX A b w) (q * 21 + r) i1) (tenL (2 * (aP A 0 0 0 - i1 - 1))) (pM (qX A t w) (qX A b w) (brA A t) (q * 21 + r) (aP A 0 0 0) i1) i33) 16)), none, some (pI (nI i1)), some (pL ((tenL (2 * (aP A 0 0 0 - i1 - 1))))), none, some (pI (nI (i33 + 1))), some (pI (nI 16)), none, none, none, none, none, none, none, none]) dX10_pairIn_401 rfl (by decide) rfl ?_
                refine J_goto dX10_pairIn_404 ?_
                refine J_drop (L' := [some (pR (some 158)), some (pI (nI t)), some (pI (nI b)), some (pI (nI q)), some (pI (nI r)), some (pI (nI w)), some (pI (nI (aP A 0 0 0))), some (pI (nI (brA A t))), some (pL (gmI (pGm (qX A t w) (qX A b w) (brA A t)) (pc (qX A t w) (qX A b w)) (pD (qX A t w) (qX A b w) (q * 21 + r) i1) (tenL (2 * (aP A 0 0 0 - i1 - 1))) i33 (gmO (pGm (qX A t w) (qX A b w) (brA A t)) (pc (qX A t w) (qX A b w)) (pD (qX A t w) (qX A b w) (q * 21 + r) i1) (tenL (2 * (aP A 0 0 0 - i1 - 1))) (pM (qX A t w) (qX A b w) (brA A t) (q * 21 + r) (aP A 0 0 0) i1) i33) 16)), none, some (pI (nI i1)), some (pL ((tenL (2 * (aP A 0 0 0 - i1 - 1))))), none, some (pI (nI (i33 + 1))), none, none, none, none, none, none, none, none, none]) 14 rfl ?_
                refine J_L (L' := [some (pR (some 158)), some (pI (nI t)), some (pI (nI b)), some (pI (nI q)), some (pI (nI r)), some (pI (nI w)), some (pI (nI (aP A 0 0 0))), some (pI (nI (brA A t))), some (pL (gmO (pGm (qX A t w) (qX A b w) (brA A t)) (pc (qX A t w) (qX A b w)) (pD (qX A t w) (qX A b w) (q * 21 + r) i1) (tenL (2 * (aP A 0 0 0 - i1 - 1))) (pM (qX A t w) (qX A b w) (brA A t) (q * 21 + r) (aP A 0 0 0) i1) (i33 + 1))), none, some (pI (nI i1)), some (pL ((tenL (2 * (aP A 0 0 0 - i1 - 1))))), none, some (pI (nI (i33 + 1))), none, none, none, none, none, none, none, none, none]) rfl ?_
                exact ih33 () _ ⟨hM2, hM3, hQ⟩
              · show J _ _ _ _ _ [some (pR (some 158)), some (pI (nI t)), some (pI (nI b)), some (pI (nI q)), some (pI (nI r)), some (pI (nI w)), some (pI (nI (aP A 0 0 0))), some (pI (nI (brA A t))), some (pL (gmI (pGm (qX A t w) (qX A b w) (brA A t)) (pc (qX A t w) (qX A b w)) (pD (qX A t w) (qX A b w) (q * 21 + r) i1) (tenL (2 * (aP A 0 0 0 - i1 - 1))) i33 (gmO (pGm (qX A t w) (qX A b w) (brA A t)) (pc (qX A t w) (qX A b w)) (pD (qX A t w) (qX A b w) (q * 21 + r) i1) (tenL (2 * (aP A 0 0 0 - i1 - 1))) (pM (qX A t w) (qX A b w) (brA A t) (q * 21 + r) (aP A 0 0 0) i1) i33) i44)), none, some (pI (nI i1)), some (pL ((tenL (2 * (aP A 0 0 0 - i1 - 1))))), none, some (pI (nI i33)), some (pI (nI i44)), none, none, none, none, none, none, none, none] _ _ h44
                obtain ⟨hM2, hM3, hQ⟩ := hI44
                have hM := hM0.mq hQ
                have hG := hQ.g hG0
                have ui := hW.u ht (w := w) (n := i44 / 4) (by omega) (by omega)
                have vj := hW.u hb (w := w) (n := i44 % 4) (by omega) (by omega)
                have hdc : pD (qX A t w) (qX A b w) (q * 21 + r) i1 i33 * pc (qX A t w) (qX A b w) i44 ≤ 10000000000 * (10 * 10) := Nat.mul_le_mul hDk (Nat.mul_le_mul ui vj)
                refine J_iload dX10_pairIn_131 rfl ?_
                refine J_bipush (x := nI 16) dX10_pairIn_133 (by decide) ?_
                refine J_icmp_geN dX10_pairIn_135 (by omega) (by omega) (fun c13 => ?_) (fun c13 => ?_)
                · exact (show False by omega).elim
                · refine J_aload_n dX10_pairIn_138 rfl ?_
                  refine J_getR (r := some 180) dX10_pairIn_139 fX10_83 s158 (fun _ => rfl) (g158_44 hG) ?_
                  refine J_iload dX10_pairIn_142 rfl ?_
                  refine J_laldN dX10_pairIn_144 s180 (by decide) (by omega) ?_
                  refine J_cvL ((hM3 i33 hi33)) ?_
                  refine J_lconst (x := 0) dX10_pairIn_145 rfl ?_
                  refine J_lcmp dX10_pairIn_146 ?_
                  refine J_lif_le dX10_pairIn_147 (fun d1 => ?_) (fun d1 => ?_)
                  · have hz0 : pD (qX A t w) (qX A b w) (q * 21 + r) i1 i33 = 0 := by have z := (pk_lLE (a := pD (qX A t w) (qX A b w) (q * 21 + r) i1 i33) (b := 0) (by omega) (by decide)).mp d1; omega
                    refine J_iincN (n := 1) (L' := [some (pR (some 158)), some (pI (nI t)), some (pI (nI b)), some (pI (nI q)), some (pI (nI r)), some (pI (nI w)), some (pI (nI (aP A 0 0 0))), some (pI (nI (brA A t))), some (pL (gmI (pGm (qX A t w) (qX A b w) (brA A t)) (pc (qX A t w) (qX A b w)) (pD (qX A t w) (qX A b w) (q * 21 + r) i1) (tenL (2 * (aP A 0 0 0 - i1 - 1))) i33 (gmO (pGm (qX A t w) (qX A b w) (brA A t)) (pc (qX A t w) (qX A b w)) (pD (qX A t w) (qX A b w) (q * 21 + r) i1) (tenL (2 * (aP A 0 0 0 - i1 - 1))) (pM (qX A t w) (qX A b w) (brA A t) (q * 21 + r) (aP A 0 0 0) i1) i33) i44)), none, some (pI (nI i1)), some (pL ((tenL (2 * (aP A 0 0 0 - i1 - 1))))), none, some (pI (nI (i33 + 1))), some (pI (nI i44)), none, none, none, none, none, none, none, none]) dX10_pairIn_401 rfl (by decide) rfl ?_
                    refine J_goto dX10_pairIn_404 ?_
                    refine J_drop (L' := [some (pR (some 158)), some (pI (nI t)), some (pI (nI b)), some (pI (nI q)), some (pI (nI r)), some (pI (nI w)), some (pI (nI (aP A 0 0 0))), some (pI (nI (brA A t))), some (pL (gmI (pGm (qX A t w) (qX A b w) (brA A t)) (pc (qX A t w) (qX A b w)) (pD (qX A t w) (qX A b w) (q * 21 + r) i1) (tenL (2 * (aP A 0 0 0 - i1 - 1))) i33 (gmO (pGm (qX A t w) (qX A b w) (brA A t)) (pc (qX A t w) (qX A b w)) (pD (qX A t w) (qX A b w) (q * 21 + r) i1) (tenL (2 * (aP A 0 0 0 - i1 - 1))) (pM (qX A t w) (qX A b w) (brA A t) (q * 21 + r) (aP A 0 0 0) i1) i33) i44)), none, some (pI (nI i1)), some (pL ((tenL (2 * (aP A 0 0 0 - i1 - 1))))), none, some (pI (nI (i33 + 1))), none, none, none, none, none, none, none, none, none]) 14 rfl ?_
                    refine J_L (L' := [some (pR (some 158)), some (pI (nI t)), some (pI (nI b)), some (pI (nI q)), some (pI (nI r)), some (pI (nI w)), some (pI (nI (aP A 0 0 0))), some (pI (nI (brA A t))), some (pL (gmO (pGm (qX A t w) (qX A b w) (brA A t)) (pc (qX A t w) (qX A b w)) (pD (qX A t w) (qX A b w) (q * 21 + r) i1) (tenL (2 * (aP A 0 0 0 - i1 - 1))) (pM (qX A t w) (qX A b w) (brA A t) (q * 21 + r) (aP A 0 0 0) i1) (i33 + 1))), none, some (pI (nI i1)), some (pL ((tenL (2 * (aP A 0 0 0 - i1 - 1))))), none, some (pI (nI (i33 + 1))), none, none, none, none, none, none, none, none, none]) (by rw [gmI_0 hz0]; show _ = [_, _, _, _, _, _, _, _, some (pL (gmI (pGm (qX A t w) (qX A b w) (brA A t)) (pc (qX A t w) (qX A b w)) (pD (qX A t w) (qX A b w) (q * 21 + r) i1) (tenL (2 * (aP A 0 0 0 - i1 - 1))) i33 (gmO (pGm (qX A t w) (qX A b w) (brA A t)) (pc (qX A t w) (qX A b w)) (pD (qX A t w) (qX A b w) (q * 21 + r) i1) (tenL (2 * (aP A 0 0 0 - i1 - 1))) (pM (qX A t w) (qX A b w) (brA A t) (q * 21 + r) (aP A 0 0 0) i1) i33) 16)), _, _, _, _, _, _, _, _, _, _, _, _, _, _]; rw [gmI_0 hz0]) ?_
                    exact ih33 () _ ⟨fun j hj => (hM2 j hj).trans (by rw [gI_0 hz0]; show _ = lN (gI (pNm (qX A t w) (qX A b w)) (pc (qX A t w) (qX A b w)) (pD (qX A t w) (qX A b w) (q * 21 + r) i1) i33 (gO (pNm (qX A t w) (qX A b w)) (pc (qX A t w) (qX A b w)) (pD (qX A t w) (qX A b w) (q * 21 + r) i1) i33) 16 j); rw [gI_0 hz0]), hM3, hQ⟩
                  · refine J_aload_n dX10_pairIn_150 rfl ?_
                    refine J_getR (r := some 180) dX10_pairIn_151 fX10_83 s158 (fun _ => rfl) (g158_44 hG) ?_
                    refine J_iload dX10_pairIn_154 rfl ?_
                    refine J_laldN dX10_pairIn_156 s180 (by decide) (by omega) ?_
                    refine J_cvL ((hM3 i33 hi33)) ?_
                    refine J_aload_n dX10_pairIn_157 rfl ?_
                    refine J_iload_n dX10_pairIn_158 rfl ?_
                    refine J_iload dX10_pairIn_159 rfl ?_
                    refine J_iload dX10_pairIn_161 rfl ?_
                    refine J_iconstN (n := 4) dX10_pairIn_163 ?_
                    refine J_idivN dX10_pairIn_164 (by omega) (by omega) (by omega) ?_
                    refine J_cVI (ci := 10) (c := 158) (as := [pI (nI t), pI (nI w), pI (nI (i44 / 4))]) (st := [pL (lN (pD (qX A t w) (qX A b w) (q * 21 + r) i1 i33))]) dX10_pairIn_165 lX10_249 okX10_chance vX10_chance s158 (by decide) rfl rfl rfl (Nat.le_of_ble_eq_true rfl) ⟨Nat.le_of_ble_eq_true rfl, Nat.le_of_ble_eq_true rfl⟩ CR.f (c_X10_chance hG (by omega) (by omega) (by omega) (hM.w ht (by omega) (by omega))) (fun vq15 gq15 eq15 => ?_)
                    obtain ⟨rfl, fq15⟩ := eq15
                    rw [fq15]
                    refine J_i2lN dX10_pairIn_168 (by omega) ?_
                    refine J_lmul dX10_pairIn_169 ?_
                    refine J_cvL (lN_mul _ _) ?_
                    refine J_aload_n dX10_pairIn_170 rfl ?_
                    refine J_iload_n dX10_pairIn_171 rfl ?_
                    refine J_iload dX10_pairIn_172 rfl ?_
                    refine J_iload dX10_pairIn_174 rfl ?_
                    refine J_iconstN (n := 4) dX10_pairIn_176 ?_
                    refine J_iremN dX10_pairIn_177 (by omega) (by omega) (by omega) ?_
                    refine J_cVI (ci := 10) (c := 158) (as := [pI (nI b), pI (nI w), pI (nI (i44 % 4))]) (st := [pL (lN (pD (qX A t w) (qX A b w) (q * 21 + r) i1 i33 * aP A 3 (4 * t + w) (i44 / 4)))]) dX10_pairIn_178 lX10_249 okX10_chance vX10_chance s158 (by decide) rfl rfl rfl (Nat.le_of_ble_eq_true rfl) ⟨Nat.le_of_ble_eq_true rfl, Nat.le_of_ble_eq_true rfl⟩ CR.f (c_X10_chance hG (by omega) (by omega) (by omega) (hM.w hb (by omega) (by omega))) (fun vq16 gq16 eq16 => ?_)
                    obtain ⟨rfl, fq16⟩ := eq16
                    rw [fq16]
                    refine J_i2lN dX10_pairIn_181 (by omega) ?_
                    refine J_lmul dX10_pairIn_182 ?_
                    refine J_cvL (lN_mul _ _) ?_
                    refine J_cvL (y := lN (pD (qX A t w) (qX A b w) (q * 21 + r) i1 i33 * pc (qX A t w) (qX A b w) i44)) (congrArg lN (Nat.mul_assoc _ _ _)) ?_
                    refine J_lstore (L' := [some (pR (some 158)), some (pI (nI t)), some (pI (nI b)), some (pI (nI q)), some (pI (nI r)), some (pI (nI w)), some (pI (nI (aP A 0 0 0))), some (pI (nI (brA A t))), some (pL (gmI (pGm (qX A t w) (qX A b w) (brA A t)) (pc (qX A t w) (qX A b w)) (pD (qX A t w) (qX A b w) (q * 21 + r) i1) (tenL (2 * (aP A 0 0 0 - i1 - 1))) i33 (gmO (pGm (qX A t w) (qX A b w) (brA A t)) (pc (qX A t w) (qX A b w)) (pD (qX A t w) (qX A b w) (q * 21 + r) i1) (tenL (2 * (aP A 0 0 0 - i1 - 1))) (pM (qX A t w) (qX A b w) (brA A t) (q * 21 + r) (aP A 0 0 0) i1) i33) i44)), none, some (pI (nI i1)), some (pL ((tenL (2 * (aP A 0 0 0 - i1 - 1))))), none, some (pI (nI i33)), some (pI (nI i44)), some (pL (lN (pD (qX A t w) (qX A b w) (q * 21 + r) i1 i33 * pc (qX A t w) (qX A b w) i44))), none, none, none, none, none, none, none]) dX10_pairIn_183 (by decide) rfl ?_
                    refine J_lload dX10_pairIn_185 rfl ?_
                    refine J_lconst (x := 0) dX10_pairIn_187 rfl ?_
                    refine J_lcmp dX10_pairIn_188 ?_
                    refine J_lif_ne dX10_pairIn_189 (fun d3 => ?_) (fun d3 => ?_)
                    · refine J_aload_n dX10_pairIn_195 rfl ?_
                      refine J_iload_n dX10_pairIn_196 rfl ?_
                      refine J_iload dX10_pairIn_197 rfl ?_
                      refine J_iload dX10_pairIn_199 rfl ?_
                      refine J_bipush (x := nI 21) dX10_pairIn_201 (by decide) ?_
                      refine J_iremN dX10_pairIn_203 (by omega) (by omega) (by omega) ?_
                      refine J_iload dX10_pairIn_204 rfl ?_
                      refine J_iconstN (n := 4) dX10_pairIn_206 ?_
                      refine J_iremN dX10_pairIn_207 (by omega) (by omega) (by omega) ?_
                      refine J_cVV (ci := 10) (c := 158) (as := [pI (nI b), pI (nI w), pI (nI (i33 % 21)), pI (nI (i44 % 4))]) (st := []) dX10_pairIn_208 lX10_271 okX10_give vX10_give s158 (by decide) rfl rfl rfl (Nat.le_of_ble_eq_true rfl) ⟨Nat.le_of_ble_eq_true rfl, Nat.le_of_ble_eq_true rfl⟩ CR.f (c_X10_give hG (by omega) (by omega) (hM.tma hW hb).tm (hM.wm hW hb (by omega)) (by omega) (by omega)) (fun g1 eg1 => ?_)
                      obtain ⟨⟨y27b, y28b, y29b, y31b⟩, fg1⟩ := wkG eg1
                      have hG := fg1.g hG
                      have hM := hM.mq (.of fg1)
                      have r1b : pGv (qX A b w) (i33 % 21) (i44 % 4) ≤ (i44 % 4) := gv_wa _ _ _ _ _
                      have r2b : pLk (qX A b w) (i33 % 21) (i44 % 4) ≤ (i44 % 4) := lk_wa _ _ _
                      have r3b : pMs (qX A b w) (i33 % 21) (i44 % 4) ≤ (i44 % 4) := ms_wa _ _ _ _ _
                      have r4b : pRs (qX A b w) (i33 % 21) (i44 % 4) ≤ (i33 % 21) := rs_le _ _ _ _ _
                      refine J_aload_n dX10_pairIn_211 rfl ?_
                      refine J_iload_n dX10_pairIn_212 rfl ?_
                      refine J_iconstN (n := 2) dX10_pairIn_213 ?_
                      refine J_cVI (ci := 10) (c := 158) (as := [pI (nI b), pI (nI 2)]) (st := []) dX10_pairIn_214 lX10_246 okX10_of vX10_of s158 (by decide) rfl rfl rfl (Nat.le_of_ble_eq_true rfl) ⟨Nat.le_of_ble_eq_true rfl, Nat.le_of_ble_eq_true rfl⟩ CR.f (c_X10_of hG (by omega) (by decide) (hM.t hb (by decide))) (fun vq18 gq18 eq18 => ?_)
                      obtain ⟨rfl, fq18⟩ := eq18
                      rw [fq18]
                      refine J_aload_n dX10_pairIn_217 rfl ?_
                      refine J_getI dX10_pairIn_218 fX10_259 s158 (fun _ => rfl) ?_
                      refine J_cvI ((show _ = nI (pGv (qX A b w) (i33 % 21) (i44 % 4)) from y27b)) ?_
                      refine J_imulN dX10_pairIn_221 ?_
                      refine J_aload_n dX10_pairIn_222 rfl ?_
                      refine J_iload_n dX10_pairIn_223 rfl ?_
                      refine J_iconstN (n := 3) dX10_pairIn_224 ?_
                      refine J_cVI (ci := 10) (c := 158) (as := [pI (nI b), pI (nI 3)]) (st := [pI (nI (aP A 2 b 2 * pGv (qX A b w) (i33 % 21) (i44 % 4)))]) dX10_pairIn_225 lX10_246 okX10_of vX10_of s158 (by decide) rfl rfl rfl (Nat.le_of_ble_eq_true rfl) ⟨Nat.le_of_ble_eq_true rfl, Nat.le_of_ble_eq_true rfl⟩ CR.f (c_X10_of hG (by omega) (by decide) (hM.t hb (by decide))) (fun vq19 gq19 eq19 => ?_)
                      obtain ⟨rfl, fq19⟩ := eq19
                      rw [fq19]
                      refine J_aload_n dX10_pairIn_228 rfl ?_
                      refine J_getI dX10_pairIn_229 fX10_262 s158 (fun _ => rfl) ?_
                      refine J_cvI ((show _ = nI (pLk (qX A b w) (i33 % 21) (i44 % 4)) from y28b)) ?_
                      refine J_imulN dX10_pairIn_232 ?_
                      refine J_isub dX10_pairIn_233 ?_
                      refine J_i2l dX10_pairIn_234 ?_
                      have m3 : aP A 2 b 2 * pGv (qX A b w) (i33 % 21) (i44 % 4) ≤ 99 * 3 := Nat.mul_le_mul bb2 (by omega)
                      have m4 : aP A 2 b 3 * pLk (qX A b w) (i33 % 21) (i44 % 4) ≤ 500 * 3 := Nat.mul_le_mul bb3 (by omega)
                      refine J_cvL (y := lN (aP A 2 b 2 * pGv (qX A b w) (i33 % 21) (i44 % 4)) - lN (aP A 2 b 3 * pLk (qX A b w) (i33 % 21) (i44 % 4))) (i2l2 (by omega) (by omega)) ?_
                      refine J_lstore (L' := [some (pR (some 158)), some (pI (nI t)), some (pI (nI b)), some (pI (nI q)), some (pI (nI r)), some (pI (nI w)), some (pI (nI (aP A 0 0 0))), some (pI (nI (brA A t))), some (pL (gmI (pGm (qX A t w) (qX A b w) (brA A t)) (pc (qX A t w) (qX A b w)) (pD (qX A t w) (qX A b w) (q * 21 + r) i1) (tenL (2 * (aP A 0 0 0 - i1 - 1))) i33 (gmO (pGm (qX A t w) (qX A b w) (brA A t)) (pc (qX A t w) (qX A b w)) (pD (qX A t w) (qX A b w) (q * 21 + r) i1) (tenL (2 * (aP A 0 0 0 - i1 - 1))) (pM (qX A t w) (qX A b w) (brA A t) (q * 21 + r) (aP A 0 0 0) i1) i33) i44)), none, some (pI (nI i1)), some (pL ((tenL (2 * (aP A 0 0 0 - i1 - 1))))), none, some (pI (nI i33)), some (pI (nI i44)), some (pL (lN (pD (qX A t w) (qX A b w) (q * 21 + r) i1 i33 * pc (qX A t w) (qX A b w) i44))), none, some (pL (lN (aP A 2 b 2 * pGv (qX A b w) (i33 % 21) (i44 % 4)) - lN (aP A 2 b 3 * pLk (qX A b w) (i33 % 21) (i44 % 4)))), none, none, none, none, none]) dX10_pairIn_235 (by decide) rfl ?_
                      refine J_aload_n dX10_pairIn_237 rfl ?_
                      refine J_getI dX10_pairIn_238 fX10_268 s158 (fun _ => rfl) ?_
                      refine J_cvI ((show _ = nI (pRs (qX A b w) (i33 % 21) (i44 % 4)) from y31b)) ?_
                      refine J_istore (L' := [some (pR (some 158)), some (pI (nI t)), some (pI (nI b)), some (pI (nI q)), some (pI (nI r)), some (pI (nI w)), some (pI (nI (aP A 0 0 0))), some (pI (nI (brA A t))), some (pL (gmI (pGm (qX A t w) (qX A b w) (brA A t)) (pc (qX A t w) (qX A b w)) (pD (qX A t w) (qX A b w) (q * 21 + r) i1) (tenL (2 * (aP A 0 0 0 - i1 - 1))) i33 (gmO (pGm (qX A t w) (qX A b w) (brA A t)) (pc (qX A t w) (qX A b w)) (pD (qX A t w) (qX A b w) (q * 21 + r) i1) (tenL (2 * (aP A 0 0 0 - i1 - 1))) (pM (qX A t w) (qX A b w) (brA A t) (q * 21 + r) (aP A 0 0 0) i1) i33) i44)), none, some (pI (nI i1)), some (pL ((tenL (2 * (aP A 0 0 0 - i1 - 1))))), none, some (pI (nI i33)), some (pI (nI i44)), some (pL (lN (pD (qX A t w) (qX A b w) (q * 21 + r) i1 i33 * pc (qX A t w) (qX A b w) i44))), none, some (pL (lN (aP A 2 b 2 * pGv (qX A b w) (i33 % 21) (i44 % 4)) - lN (aP A 2 b 3 * pLk (qX A b w) (i33 % 21) (i44 % 4)))), none, some (pI (nI (pRs (qX A b w) (i33 % 21) (i44 % 4)))), none, none, none]) dX10_pairIn_241 (by decide) rfl ?_
                      refine J_aload_n dX10_pairIn_243 rfl ?_
                      refine J_iload_n dX10_pairIn_244 rfl ?_
                      refine J_iload dX10_pairIn_245 rfl ?_
                      refine J_iload dX10_pairIn_247 rfl ?_
                      refine J_bipush (x := nI 21) dX10_pairIn_249 (by decide) ?_
                      refine J_idivN dX10_pairIn_251 (by omega) (by omega) (by omega) ?_
                      refine J_iload dX10_pairIn_252 rfl ?_
                      refine J_iconstN (n := 4) dX10_pairIn_254 ?_
                      refine J_idivN dX10_pairIn_255 (by omega) (by omega) (by omega) ?_
                      refine J_cVV (ci := 10) (c := 158) (as := [pI (nI t), pI (nI w), pI (nI (i33 / 21)), pI (nI (i44 / 4))]) (st := []) dX10_pairIn_256 lX10_271 okX10_give vX10_give s158 (by decide) rfl rfl rfl (Nat.le_of_ble_eq_true rfl) ⟨Nat.le_of_ble_eq_true rfl, Nat.le_of_ble_eq_true rfl⟩ CR.f (c_X10_give hG (by omega) (by omega) (hM.tma hW ht).tm (hM.wm hW ht (by omega)) (by omega) (by omega)) (fun g2 eg2 => ?_)
                      obtain ⟨⟨y27t, y28t, y29t, y31t⟩, fg2⟩ := wkG eg2
                      have hG := fg2.g hG
                      have hM := hM.mq (.of fg2)
                      have r1t : pGv (qX A t w) (i33 / 21) (i44 / 4) ≤ (i44 / 4) := gv_wa _ _ _ _ _
                      have r2t : pLk (qX A t w) (i33 / 21) (i44 / 4) ≤ (i44 / 4) := lk_wa _ _ _
                      have r3t : pMs (qX A t w) (i33 / 21) (i44 / 4) ≤ (i44 / 4) := ms_wa _ _ _ _ _
                      have r4t : pRs (qX A t w) (i33 / 21) (i44 / 4) ≤ (i33 / 21) := rs_le _ _ _ _ _
                      refine J_aload_n dX10_pairIn_259 rfl ?_
                      refine J_iload_n dX10_pairIn_260 rfl ?_
                      refine J_iload dX10_pairIn_261 rfl ?_
                      refine J_cVI (ci := 10) (c := 158) (as := [pI (nI b), pI (nI (pRs (qX A b w) (i33 % 21) (i44 % 4)))]) (st := []) dX10_pairIn_263 lX10_256 okX10_above vX10_above s158 (by decide) rfl rfl rfl (Nat.le_of_ble_eq_true rfl) ⟨Nat.le_of_ble_eq_true rfl, Nat.le_of_ble_eq_true rfl⟩ CR.f (c_X10_above hG (by omega) (hM.tma hW hb).2.1 (hM.tma hW hb).2.2.1 (by omega) (by omega) (by omega)) (fun vq20 gq20 eq20 => ?_)
                      have hsp : pSp (qX A b w) (pRs (qX A b w) (i33 % 21) (i44 % 4)) ≤ pRs (qX A b w) (i33 % 21) (i44 % 4) := spN_le _ _ _
                      have hts : pTL (qX A t w) (qX A b w) (i33 / 21) (i33 % 21) (i44 / 4) (i44 % 4) ≤ pSp (qX A b w) (pRs (qX A b w) (i33 % 21) (i44 % 4)) := Nat.min_le_right _ _
                      obtain ⟨rfl, fq20⟩ := eq20
                      rw [fq20]
                      refine J_cvI (y := nI (pSp (qX A b w) (pRs (qX A b w) (i33 % 21) (i44 % 4)))) rfl ?_
                      refine J_istore (L' := [some (pR (some 158)), some (pI (nI t)), some (pI (nI b)), some (pI (nI q)), some (pI (nI r)), some (pI (nI w)), some (pI (nI (aP A 0 0 0))), some (pI (nI (brA A t))), some (pL (gmI (pGm (qX A t w) (qX A b w) (brA A t)) (pc (qX A t w) (qX A b w)) (pD (qX A t w) (qX A b w) (q * 21 + r) i1) (tenL (2 * (aP A 0 0 0 - i1 - 1))) i33 (gmO (pGm (qX A t w) (qX A b w) (brA A t)) (pc (qX A t w) (qX A b w)) (pD (qX A t w) (qX A b w) (q * 21 + r) i1) (tenL (2 * (aP A 0 0 0 - i1 - 1))) (pM (qX A t w) (qX A b w) (brA A t) (q * 21 + r) (aP A 0 0 0) i1) i33) i44)), none, some (pI (nI i1)), some (pL ((tenL (2 * (aP A 0 0 0 - i1 - 1))))), none, some (pI (nI i33)), some (pI (nI i44)), some (pL (lN (pD (qX A t w) (qX A b w) (q * 21 + r) i1 i33 * pc (qX A t w) (qX A b w) i44))), none, some (pL (lN (aP A 2 b 2 * pGv (qX A b w) (i33 % 21) (i44 % 4)) - lN (aP A 2 b 3 * pLk (qX A b w) (i33 % 21) (i44 % 4)))), none, some (pI (nI (pRs (qX A b w) (i33 % 21) (i44 % 4)))), some (pI (nI (pSp (qX A b w) (pRs (qX A b w) (i33 % 21) (i44 % 4))))), none, none]) dX10_pairIn_266 (by decide) rfl ?_
                      refine J_aload_n dX10_pairIn_268 rfl ?_
                      refine J_getI dX10_pairIn_269 fX10_262 s158 (fun _ => rfl) ?_
                      refine J_cvI ((show _ = nI (pLk (qX A t w) (i33 / 21) (i44 / 4)) from y28t)) ?_
                      refine J_iload dX10_pairIn_272 rfl ?_
                      refine J_cSI (as := [pI (nI (pLk (qX A t w) (i33 / 21) (i44 / 4))), pI (nI (pSp (qX A b w) (pRs (qX A b w) (i33 % 21) (i44 % 4))))]) (st := []) dX10_pairIn_274 lX10_253 okX10_least sX10_least rfl rfl (Nat.le_of_ble_eq_true rfl) ⟨Nat.le_of_ble_eq_true rfl, Nat.le_of_ble_eq_true rfl⟩ CR.f (c_X10_least (by omega) (by omega)) (fun vq21 gq21 eq21 => ?_)
                      obtain ⟨rfl, fq21⟩ := eq21
                      rw [fq21]
                      refine J_cvI (y := nI (pTL (qX A t w) (qX A b w) (i33 / 21) (i33 % 21) (i44 / 4) (i44 % 4))) rfl ?_
                      refine J_istore (L' := [some (pR (some 158)), some (pI (nI t)), some (pI (nI b)), some (pI (nI q)), some (pI (nI r)), some (pI (nI w)), some (pI (nI (aP A 0 0 0))), some (pI (nI (brA A t))), some (pL (gmI (pGm (qX A t w) (qX A b w) (brA A t)) (pc (qX A t w) (qX A b w)) (pD (qX A t w) (qX A b w) (q * 21 + r) i1) (tenL (2 * (aP A 0 0 0 - i1 - 1))) i33 (gmO (pGm (qX A t w) (qX A b w) (brA A t)) (pc (qX A t w) (qX A b w)) (pD (qX A t w) (qX A b w) (q * 21 + r) i1) (tenL (2 * (aP A 0 0 0 - i1 - 1))) (pM (qX A t w) (qX A b w) (brA A t) (q * 21 + r) (aP A 0 0 0) i1) i33) i44)), none, some (pI (nI i1)), some (pL ((tenL (2 * (aP A 0 0 0 - i1 - 1))))), none, some (pI (nI i33)), some (pI (nI i44)), some (pL (lN (pD (qX A t w) (qX A b w) (q * 21 + r) i1 i33 * pc (qX A t w) (qX A b w) i44))), none, some (pL (lN (aP A 2 b 2 * pGv (qX A b w) (i33 % 21) (i44 % 4)) - lN (aP A 2 b 3 * pLk (qX A b w) (i33 % 21) (i44 % 4)))), none, some (pI (nI (pRs (qX A b w) (i33 % 21) (i44 % 4)))), some (pI (nI (pSp (qX A b w) (pRs (qX A b w) (i33 % 21) (i44 % 4))))), some (pI (nI (pTL (qX A t w) (qX A b w) (i33 / 21) (i33 % 21) (i44 / 4) (i44 % 4)))), none]) dX10_pairIn_277 (by decide) rfl ?_
                      refine J_aload_n dX10_pairIn_279 rfl ?_
                      refine J_getI dX10_pairIn_280 fX10_265 s158 (fun _ => rfl) ?_
                      refine J_cvI ((show _ = nI (pMs (qX A t w) (i33 / 21) (i44 / 4)) from y29t)) ?_
                      refine J_iload dX10_pairIn_283 rfl ?_
                      refine J_iload dX10_pairIn_285 rfl ?_
                      refine J_isubN dX10_pairIn_287 (by omega) ?_
                      refine J_cSI (as := [pI (nI (pMs (qX A t w) (i33 / 21) (i44 / 4))), pI (nI (pSp (qX A b w) (pRs (qX A b w) (i33 % 21) (i44 % 4)) - pTL (qX A t w) (qX A b w) (i33 / 21) (i33 % 21) (i44 / 4) (i44 % 4)))]) (st := []) dX10_pairIn_288 lX10_253 okX10_least sX10_least rfl rfl (Nat.le_of_ble_eq_true rfl) ⟨Nat.le_of_ble_eq_true rfl, Nat.le_of_ble_eq_true rfl⟩ CR.f (c_X10_least (by omega) (by omega)) (fun vq22 gq22 eq22 => ?_)
                      obtain ⟨rfl, fq22⟩ := eq22
                      rw [fq22]
                      refine J_cvI (y := nI (pTM (qX A t w) (qX A b w) (i33 / 21) (i33 % 21) (i44 / 4) (i44 % 4))) rfl ?_
                      refine J_istore (L' := [some (pR (some 158)), some (pI (nI t)), some (pI (nI b)), some (pI (nI q)), some (pI (nI r)), some (pI (nI w)), some (pI (nI (aP A 0 0 0))), some (pI (nI (brA A t))), some (pL (gmI (pGm (qX A t w) (qX A b w) (brA A t)) (pc (qX A t w) (qX A b w)) (pD (qX A t w) (qX A b w) (q * 21 + r) i1) (tenL (2 * (aP A 0 0 0 - i1 - 1))) i33 (gmO (pGm (qX A t w) (qX A b w) (brA A t)) (pc (qX A t w) (qX A b w)) (pD (qX A t w) (qX A b w) (q * 21 + r) i1) (tenL (2 * (aP A 0 0 0 - i1 - 1))) (pM (qX A t w) (qX A b w) (brA A t) (q * 21 + r) (aP A 0 0 0) i1) i33) i44)), none, some (pI (nI i1)), some (pL ((tenL (2 * (aP A 0 0 0 - i1 - 1))))), none, some (pI (nI i33)), some (pI (nI i44)), some (pL (lN (pD (qX A t w) (qX A b w) (q * 21 + r) i1 i33 * pc (qX A t w) (qX A b w) i44))), none, some (pL (lN (aP A 2 b 2 * pGv (qX A b w) (i33 % 21) (i44 % 4)) - lN (aP A 2 b 3 * pLk (qX A b w) (i33 % 21) (i44 % 4)))), none, some (pI (nI (pRs (qX A b w) (i33 % 21) (i44 % 4)))), some (pI (nI (pSp (qX A b w) (pRs (qX A b w) (i33 % 21) (i44 % 4))))), some (pI (nI (pTL (qX A t w) (qX A b w) (i33 / 21) (i33 % 21) (i44 / 4) (i44 % 4)))), some (pI (nI (pTM (qX A t w) (qX A b w) (i33 / 21) (i33 % 21) (i44 / 4) (i44 % 4))))]) dX10_pairIn_291 (by decide) rfl ?_
                      have zs1 := sl_le (aP A 2 t 5) (pRs (qX A t w) (i33 / 21) (i44 / 4))
                      have zs2 := sl_le (aP A 2 b 5) (pLf (qX A t w) (qX A b w) (i33 / 21) (i33 % 21) (i44 / 4) (i44 % 4))
                      have elf : pLf (qX A t w) (qX A b w) (i33 / 21) (i33 % 21) (i44 / 4) (i44 % 4) = pRs (qX A b w) (i33 % 21) (i44 % 4) - pMv (qX A t w) (qX A b w) (i33 / 21) (i33 % 21) (i44 / 4) (i44 % 4) := rfl
                      have htl : pTL (qX A t w) (qX A b w) (i33 / 21) (i33 % 21) (i44 / 4) (i44 % 4) ≤ pLk (qX A t w) (i33 / 21) (i44 / 4) := pTL_le _ _ _ _ _ _
                      have hmv := pMv_le (qX A t w) (qX A b w) (i33 / 21) (i33 % 21) (i44 / 4) (i44 % 4)
                      have emv : pMv (qX A t w) (qX A b w) (i33 / 21) (i33 % 21) (i44 / 4) (i44 % 4) = pTL (qX A t w) (qX A b w) (i33 / 21) (i33 % 21) (i44 / 4) (i44 % 4) + pTM (qX A t w) (qX A b w) (i33 / 21) (i33 % 21) (i44 / 4) (i44 % 4) := rfl
                      refine J_iload dX10_pairIn_293 rfl ?_
                      refine J_iload dX10_pairIn_295 rfl ?_
                      refine J_iload dX10_pairIn_297 rfl ?_
                      refine J_iaddN dX10_pairIn_299 ?_
                      refine J_isubN dX10_pairIn_300 (by omega) ?_
                      refine J_istore (L' := [some (pR (some 158)), some (pI (nI t)), some (pI (nI b)), some (pI (nI q)), some (pI (nI r)), some (pI (nI w)), some (pI (nI (aP A 0 0 0))), some (pI (nI (brA A t))), some (pL (gmI (pGm (qX A t w) (qX A b w) (brA A t)) (pc (qX A t w) (qX A b w)) (pD (qX A t w) (qX A b w) (q * 21 + r) i1) (tenL (2 * (aP A 0 0 0 - i1 - 1))) i33 (gmO (pGm (qX A t w) (qX A b w) (brA A t)) (pc (qX A t w) (qX A b w)) (pD (qX A t w) (qX A b w) (q * 21 + r) i1) (tenL (2 * (aP A 0 0 0 - i1 - 1))) (pM (qX A t w) (qX A b w) (brA A t) (q * 21 + r) (aP A 0 0 0) i1) i33) i44)), none, some (pI (nI i1)), some (pL ((tenL (2 * (aP A 0 0 0 - i1 - 1))))), none, some (pI (nI i33)), some (pI (nI i44)), some (pL (lN (pD (qX A t w) (qX A b w) (q * 21 + r) i1 i33 * pc (qX A t w) (qX A b w) i44))), none, some (pL (lN (aP A 2 b 2 * pGv (qX A b w) (i33 % 21) (i44 % 4)) - lN (aP A 2 b 3 * pLk (qX A b w) (i33 % 21) (i44 % 4)))), none, some (pI (nI (pRs (qX A b w) (i33 % 21) (i44 % 4) - (pTL (qX A t w) (qX A b w) (i33 / 21) (i33 % 21) (i44 / 4) (i44 % 4) + pTM (qX A t w) (qX A b w) (i33 / 21) (i33 % 21) (i44 / 4) (i44 % 4))))), some (pI (nI (pSp (qX A b w) (pRs (qX A b w) (i33 % 21) (i44 % 4))))), some (pI (nI (pTL (qX A t w) (qX A b w) (i33 / 21) (i33 % 21) (i44 / 4) (i44 % 4)))), some (pI (nI (pTM (qX A t w) (qX A b w) (i33 / 21) (i33 % 21) (i44 / 4) (i44 % 4))))]) dX10_pairIn_301 (by decide) rfl ?_
                      refine J_L (L' := [some (pR (some 158)), some (pI (nI t)), some (pI (nI b)), some (pI (nI q)), some (pI (nI r)), some (pI (nI w)), some (pI (nI (aP A 0 0 0))), some (pI (nI (brA A t))), some (pL (gmI (pGm (qX A t w) (qX A b w) (brA A t)) (pc (qX A t w) (qX A b w)) (pD (qX A t w) (qX A b w) (q * 21 + r) i1) (tenL (2 * (aP A 0 0 0 - i1 - 1))) i33 (gmO (pGm (qX A t w) (qX A b w) (brA A t)) (pc (qX A t w) (qX A b w)) (pD (qX A t w) (qX A b w) (q * 21 + r) i1) (tenL (2 * (aP A 0 0 0 - i1 - 1))) (pM (qX A t w) (qX A b w) (brA A t) (q * 21 + r) (aP A 0 0 0) i1) i33) i44)), none, some (pI (nI i1)), some (pL ((tenL (2 * (aP A 0 0 0 - i1 - 1))))), none, some (pI (nI i33)), some (pI (nI i44)), some (pL (lN (pD (qX A t w) (qX A b w) (q * 21 + r) i1 i33 * pc (qX A t w) (qX A b w) i44))), none, some (pL (lN (aP A 2 b 2 * pGv (qX A b w) (i33 % 21) (i44 % 4)) - lN (aP A 2 b 3 * pLk (qX A b w) (i33 % 21) (i44 % 4)))), none, some (pI (nI (pLf (qX A t w) (qX A b w) (i33 / 21) (i33 % 21) (i44 / 4) (i44 % 4)))), some (pI (nI (pSp (qX A b w) (pRs (qX A b w) (i33 % 21) (i44 % 4))))), some (pI (nI (pTL (qX A t w) (qX A b w) (i33 / 21) (i33 % 21) (i44 / 4) (i44 % 4)))), some (pI (nI (pTM (qX A t w) (qX A b w) (i33 / 21) (i33 % 21) (i44 / 4) (i44 % 4))))]) rfl ?_
                      refine J_lload dX10_pairIn_303 rfl ?_
                      refine J_aload_n dX10_pairIn_305 rfl ?_
                      refine J_iload_n dX10_pairIn_306 rfl ?_
                      refine J_iconstN (n := 2) dX10_pairIn_307 ?_
                      refine J_cVI (ci := 10) (c := 158) (as := [pI (nI t), pI (nI 2)]) (st := [pL (lN (aP A 2 b 2 * pGv (qX A b w) (i33 % 21) (i44 % 4)) - lN (aP A 2 b 3 * pLk (qX A b w) (i33 % 21) (i44 % 4)))]) dX10_pairIn_308 lX10_246 okX10_of vX10_of s158 (by decide) rfl rfl rfl (Nat.le_of_ble_eq_true rfl) ⟨Nat.le_of_ble_eq_true rfl, Nat.le_of_ble_eq_true rfl⟩ CR.f (c_X10_of hG (by omega) (by decide) (hM.t ht (by decide))) (fun vq23 gq23 eq23 => ?_)
                      obtain ⟨rfl, fq23⟩ := eq23
                      rw [fq23]
                      refine J_aload_n dX10_pairIn_311 rfl ?_
                      refine J_getI dX10_pairIn_312 fX10_259 s158 (fun _ => rfl) ?_
                      refine J_cvI ((show _ = nI (pGv (qX A t w) (i33 / 21) (i44 / 4)) from y27t)) ?_
                      refine J_imulN dX10_pairIn_315 ?_
                      refine J_aload_n dX10_pairIn_316 rfl ?_
                      refine J_iload_n dX10_pairIn_317 rfl ?_
                      refine J_iconstN (n := 3) dX10_pairIn_318 ?_
                      refine J_cVI (ci := 10) (c := 158) (as := [pI (nI t), pI (nI 3)]) (st := [pI (nI (aP A 2 t 2 * pGv (qX A t w) (i33 / 21) (i44 / 4))), pL (lN (aP A 2 b 2 * pGv (qX A b w) (i33 % 21) (i44 % 4)) - lN (aP A 2 b 3 * pLk (qX A b w) (i33 % 21) (i44 % 4)))]) dX10_pairIn_319 lX10_246 okX10_of vX10_of s158 (by decide) rfl rfl rfl (Nat.le_of_ble_eq_true rfl) ⟨Nat.le_of_ble_eq_true rfl, Nat.le_of_ble_eq_true rfl⟩ CR.f (c_X10_of hG (by omega) (by decide) (hM.t ht (by decide))) (fun vq24 gq24 eq24 => ?_)
                      obtain ⟨rfl, fq24⟩ := eq24
                      rw [fq24]
                      refine J_aload_n dX10_pairIn_322 rfl ?_
                      refine J_getI dX10_pairIn_323 fX10_262 s158 (fun _ => rfl) ?_
                      refine J_cvI ((show _ = nI (pLk (qX A t w) (i33 / 21) (i44 / 4)) from y28t)) ?_
                      refine J_iload dX10_pairIn_326 rfl ?_
                      refine J_isubN dX10_pairIn_328 (by omega) ?_
                      refine J_imulN dX10_pairIn_329 ?_
                      refine J_isub dX10_pairIn_330 ?_
                      refine J_iload dX10_pairIn_331 rfl ?_
                      refine J_iload dX10_pairIn_333 rfl ?_
                      refine J_iload dX10_pairIn_335 rfl ?_
                      refine J_iaddN dX10_pairIn_337 ?_
                      refine J_imulN dX10_pairIn_338 ?_
                      refine J_iadd dX10_pairIn_339 ?_
                      refine J_i2l dX10_pairIn_340 ?_
                      have m1 : aP A 2 t 2 * pGv (qX A t w) (i33 / 21) (i44 / 4) ≤ 99 * 3 := Nat.mul_le_mul ba2 (by omega)
                      have m2 : aP A 2 t 3 * (pLk (qX A t w) (i33 / 21) (i44 / 4) - pTL (qX A t w) (qX A b w) (i33 / 21) (i33 % 21) (i44 / 4) (i44 % 4)) ≤ 500 * 3 := Nat.mul_le_mul ba3 (by omega)
                      have m5 : brA A t * (pTL (qX A t w) (qX A b w) (i33 / 21) (i33 % 21) (i44 / 4) (i44 % 4) + pTM (qX A t w) (qX A b w) (i33 / 21) (i33 % 21) (i44 / 4) (i44 % 4)) ≤ 99 * 20 := Nat.mul_le_mul hbr (by omega)
                      refine J_cvL (y := lN (aP A 2 t 2 * pGv (qX A t w) (i33 / 21) (i44 / 4)) - lN (aP A 2 t 3 * (pLk (qX A t w) (i33 / 21) (i44 / 4) - pTL (qX A t w) (qX A b w) (i33 / 21) (i33 % 21) (i44 / 4) (i44 % 4))) + lN (brA A t * (pTL (qX A t w) (qX A b w) (i33 / 21) (i33 % 21) (i44 / 4) (i44 % 4) + pTM (qX A t w) (qX A b w) (i33 / 21) (i33 % 21) (i44 / 4) (i44 % 4)))) (i2l3 (by omega) (by omega) (by omega)) ?_
                      refine J_ladd dX10_pairIn_341 ?_
                      refine J_cvL (y := pG (qX A t w) (qX A b w) (brA A t) (i33 / 21) (i33 % 21) (i44 / 4) (i44 % 4)) (by unfold pG; rw [Nat.mul_comm (brA A t)]; show _ = lN (aP A 2 t 2 * _) - lN (aP A 2 t 3 * _) + lN (aP A 2 b 2 * _) - lN (aP A 2 b 3 * _) + lN ((pTL (qX A t w) (qX A b w) (i33 / 21) (i33 % 21) (i44 / 4) (i44 % 4) + pTM (qX A t w) (qX A b w) (i33 / 21) (i33 % 21) (i44 / 4) (i44 % 4)) * _); grind) ?_
                      refine J_lstore (L' := [some (pR (some 158)), some (pI (nI t)), some (pI (nI b)), some (pI (nI q)), some (pI (nI r)), some (pI (nI w)), some (pI (nI (aP A 0 0 0))), some (pI (nI (brA A t))), some (pL (gmI (pGm (qX A t w) (qX A b w) (brA A t)) (pc (qX A t w) (qX A b w)) (pD (qX A t w) (qX A b w) (q * 21 + r) i1) (tenL (2 * (aP A 0 0 0 - i1 - 1))) i33 (gmO (pGm (qX A t w) (qX A b w) (brA A t)) (pc (qX A t w) (qX A b w)) (pD (qX A t w) (qX A b w) (q * 21 + r) i1) (tenL (2 * (aP A 0 0 0 - i1 - 1))) (pM (qX A t w) (qX A b w) (brA A t) (q * 21 + r) (aP A 0 0 0) i1) i33) i44)), none, some (pI (nI i1)), some (pL ((tenL (2 * (aP A 0 0 0 - i1 - 1))))), none, some (pI (nI i33)), some (pI (nI i44)), some (pL (lN (pD (qX A t w) (qX A b w) (q * 21 + r) i1 i33 * pc (qX A t w) (qX A b w) i44))), none, some (pL (pG (qX A t w) (qX A b w) (brA A t) (i33 / 21) (i33 % 21) (i44 / 4) (i44 % 4))), none, some (pI (nI (pLf (qX A t w) (qX A b w) (i33 / 21) (i33 % 21) (i44 / 4) (i44 % 4)))), some (pI (nI (pSp (qX A b w) (pRs (qX A b w) (i33 % 21) (i44 % 4))))), some (pI (nI (pTL (qX A t w) (qX A b w) (i33 / 21) (i33 % 21) (i44 / 4) (i44 % 4)))), some (pI (nI (pTM (qX A t w) (qX A b w) (i33 / 21) (i33 % 21) (i44 / 4) (i44 % 4))))]) dX10_pairIn_342 (by decide) rfl ?_
                      refine J_lload dX10_pairIn_344 rfl ?_
                      refine J_lload dX10_pairIn_346 rfl ?_
                      refine J_lload dX10_pairIn_348 rfl ?_
                      refine J_lmul dX10_pairIn_350 ?_
                      refine J_lload dX10_pairIn_351 rfl ?_
                      refine J_lmul dX10_pairIn_353 ?_
                      refine J_ladd dX10_pairIn_354 ?_
                      refine J_lstore (L' := [some (pR (some 158)), some (pI (nI t)), some (pI (nI b)), some (pI (nI q)), some (pI (nI r)), some (pI (nI w)), some (pI (nI (aP A 0 0 0))), some (pI (nI (brA A t))), some (pL ((gmI (pGm (qX A t w) (qX A b w) (brA A t)) (pc (qX A t w) (qX A b w)) (pD (qX A t w) (qX A b w) (q * 21 + r) i1) (tenL (2 * (aP A 0 0 0 - i1 - 1))) i33 (gmO (pGm (qX A t w) (qX A b w) (brA A t)) (pc (qX A t w) (qX A b w)) (pD (qX A t w) (qX A b w) (q * 21 + r) i1) (tenL (2 * (aP A 0 0 0 - i1 - 1))) (pM (qX A t w) (qX A b w) (brA A t) (q * 21 + r) (aP A 0 0 0) i1) i33) i44) + (((lN (pD (qX A t w) (qX A b w) (q * 21 + r) i1 i33 * pc (qX A t w) (qX A b w) i44)) * ((tenL (2 * (aP A 0 0 0 - i1 - 1))))) * (pG (qX A t w) (qX A b w) (brA A t) (i33 / 21) (i33 % 21) (i44 / 4) (i44 % 4))))), none, some (pI (nI i1)), some (pL ((tenL (2 * (aP A 0 0 0 - i1 - 1))))), none, some (pI (nI i33)), some (pI (nI i44)), some (pL (lN (pD (qX A t w) (qX A b w) (q * 21 + r) i1 i33 * pc (qX A t w) (qX A b w) i44))), none, some (pL (pG (qX A t w) (qX A b w) (brA A t) (i33 / 21) (i33 % 21) (i44 / 4) (i44 % 4))), none, some (pI (nI (pLf (qX A t w) (qX A b w) (i33 / 21) (i33 % 21) (i44 / 4) (i44 % 4)))), some (pI (nI (pSp (qX A b w) (pRs (qX A b w) (i33 % 21) (i44 % 4))))), some (pI (nI (pTL (qX A t w) (qX A b w) (i33 / 21) (i33 % 21) (i44 / 4) (i44 % 4)))), some (pI (nI (pTM (qX A t w) (qX A b w) (i33 / 21) (i33 % 21) (i44 / 4) (i44 % 4))))]) dX10_pairIn_355 (by decide) rfl ?_
                      refine J_aload_n dX10_pairIn_357 rfl ?_
                      refine J_getR (r := some 181) dX10_pairIn_358 fX10_86 s158 (fun _ => rfl) (g158_45 hG) ?_
                      refine J_bipush (x := nI 21) dX10_pairIn_361 (by decide) ?_
                      refine J_aload_n dX10_pairIn_363 rfl ?_
                      refine J_getI dX10_pairIn_364 fX10_268 s158 (fun _ => rfl) ?_
                      refine J_cvI ((show _ = nI (pRs (qX A t w) (i33 / 21) (i44 / 4)) from y31t)) ?_
                      refine J_aload_n dX10_pairIn_367 rfl ?_
                      refine J_iload_n dX10_pairIn_368 rfl ?_
                      refine J_aload_n dX10_pairIn_369 rfl ?_
                      refine J_getI dX10_pairIn_370 fX10_268 s158 (fun _ => rfl) ?_
                      refine J_cvI ((show _ = nI (pRs (qX A t w) (i33 / 21) (i44 / 4)) from y31t)) ?_
                      refine J_cVI (ci := 10) (c := 158) (as := [pI (nI t), pI (nI (pRs (qX A t w) (i33 / 21) (i44 / 4)))]) (st := [pI (nI (pRs (qX A t w) (i33 / 21) (i44 / 4))), pI (nI 21), pR (some 181)]) dX10_pairIn_373 lX10_275 okX10_spoils vX10_spoils s158 (by decide) rfl rfl rfl (Nat.le_of_ble_eq_true rfl) ⟨Nat.le_of_ble_eq_true rfl, Nat.le_of_ble_eq_true rfl⟩ CR.f (c_X10_spoils hG (by omega) (hM.tma hW ht).tm.2.2.1 (hM.tma hW ht).tm.2.2.2.2.2.1 (hM.tma hW ht).tm.2.2.2.2.2.2 (by omega)) (fun vq25 gq25 eq25 => ?_)
                      obtain ⟨rfl, fq25⟩ := eq25
                      rw [fq25]
                      refine J_isubN dX10_pairIn_376 (by omega) ?_
                      refine J_imulN dX10_pairIn_377 ?_
                      refine J_iload dX10_pairIn_378 rfl ?_
                      refine J_iaddN dX10_pairIn_380 ?_
                      refine J_aload_n dX10_pairIn_381 rfl ?_
                      refine J_iload_n dX10_pairIn_382 rfl ?_
                      refine J_iload dX10_pairIn_383 rfl ?_
                      refine J_cVI (ci := 10) (c := 158) (as := [pI (nI b), pI (nI (pLf (qX A t w) (qX A b w) (i33 / 21) (i33 % 21) (i44 / 4) (i44 % 4)))]) (st := [pI (nI (21 * (pRs (qX A t w) (i33 / 21) (i44 / 4) - slN (aP A 2 t 5) (pRs (qX A t w) (i33 / 21) (i44 / 4))) + pLf (qX A t w) (qX A b w) (i33 / 21) (i33 % 21) (i44 / 4) (i44 % 4))), pR (some 181)]) dX10_pairIn_385 lX10_275 okX10_spoils vX10_spoils s158 (by decide) rfl rfl rfl (Nat.le_of_ble_eq_true rfl) ⟨Nat.le_of_ble_eq_true rfl, Nat.le_of_ble_eq_true rfl⟩ CR.f (c_X10_spoils hG (by omega) (hM.tma hW hb).tm.2.2.1 (hM.tma hW hb).tm.2.2.2.2.2.1 (hM.tma hW hb).tm.2.2.2.2.2.2 (by omega)) (fun vq26 gq26 eq26 => ?_)
                      obtain ⟨rfl, fq26⟩ := eq26
                      rw [fq26]
                      refine J_isubN dX10_pairIn_388 (by omega) ?_
                      refine J_cvI (y := nI (pNm (qX A t w) (qX A b w) i33 i44)) (congrArg nI (by show _ = (pRs (qX A t w) (i33 / 21) (i44 / 4) - slN (aP A 2 t 5) (pRs (qX A t w) (i33 / 21) (i44 / 4))) * 21 + (pLf (qX A t w) (qX A b w) (i33 / 21) (i33 % 21) (i44 / 4) (i44 % 4) - slN (aP A 2 b 5) (pLf (qX A t w) (qX A b w) (i33 / 21) (i33 % 21) (i44 / 4) (i44 % 4))); have z1 := sl_le (aP A 2 t 5) (pRs (qX A t w) (i33 / 21) (i44 / 4)); have z2 := sl_le (aP A 2 b 5) (pLf (qX A t w) (qX A b w) (i33 / 21) (i33 % 21) (i44 / 4) (i44 % 4)); omega)) ?_
                      refine J_dup2 dX10_pairIn_389 rfl rfl ?_
                      refine J_laldN dX10_pairIn_390 s181 (by decide) (pNm_lt (qX A t w) (qX A b w) hi33) ?_
                      refine J_cvL (((fg2.l (by decide) (by decide) (by decide) (by decide)).trans ((fg1.l (by decide) (by decide) (by decide) (by decide)).trans (hM2 _ (pNm_lt (qX A t w) (qX A b w) hi33))))) ?_
                      refine J_lload dX10_pairIn_391 rfl ?_
                      refine J_ladd dX10_pairIn_393 ?_
                      refine J_cvL (lN_add _ _) ?_
                      refine J_lastN dX10_pairIn_394 s181 (by decide) (pNm_lt (qX A t w) (qX A b w) hi33) ?_
                      refine J_iincN (n := 1) (L' := [some (pR (some 158)), some (pI (nI t)), some (pI (nI b)), some (pI (nI q)), some (pI (nI r)), some (pI (nI w)), some (pI (nI (aP A 0 0 0))), some (pI (nI (brA A t))), some (pL ((gmI (pGm (qX A t w) (qX A b w) (brA A t)) (pc (qX A t w) (qX A b w)) (pD (qX A t w) (qX A b w) (q * 21 + r) i1) (tenL (2 * (aP A 0 0 0 - i1 - 1))) i33 (gmO (pGm (qX A t w) (qX A b w) (brA A t)) (pc (qX A t w) (qX A b w)) (pD (qX A t w) (qX A b w) (q * 21 + r) i1) (tenL (2 * (aP A 0 0 0 - i1 - 1))) (pM (qX A t w) (qX A b w) (brA A t) (q * 21 + r) (aP A 0 0 0) i1) i33) i44) + (((lN (pD (qX A t w) (qX A b w) (q * 21 + r) i1 i33 * pc (qX A t w) (qX A b w) i44)) * ((tenL (2 * (aP A 0 0 0 - i1 - 1))))) * (pG (qX A t w) (qX A b w) (brA A t) (i33 / 21) (i33 % 21) (i44 / 4) (i44 % 4))))), none, some (pI (nI i1)), some (pL ((tenL (2 * (aP A 0 0 0 - i1 - 1))))), none, some (pI (nI i33)), some (pI (nI (i44 + 1))), some (pL (lN (pD (qX A t w) (qX A b w) (q * 21 + r) i1 i33 * pc (qX A t w) (qX A b w) i44))), none, some (pL (pG (qX A t w) (qX A b w) (brA A t) (i33 / 21) (i33 % 21) (i44 / 4) (i44 % 4))), none, some (pI (nI (pLf (qX A t w) (qX A b w) (i33 / 21) (i33 % 21) (i44 / 4) (i44 % 4)))), some (pI (nI (pSp (qX A b w) (pRs (qX A b w) (i33 % 21) (i44 % 4))))), some (pI (nI (pTL (qX A t w) (qX A b w) (i33 / 21) (i33 % 21) (i44 / 4) (i44 % 4)))), some (pI (nI (pTM (qX A t w) (qX A b w) (i33 / 21) (i33 % 21) (i44 / 4) (i44 % 4))))]) dX10_pairIn_395 rfl (by decide) rfl ?_
                      refine J_goto dX10_pairIn_398 ?_
                      refine J_drop (L' := [some (pR (some 158)), some (pI (nI t)), some (pI (nI b)), some (pI (nI q)), some (pI (nI r)), some (pI (nI w)), some (pI (nI (aP A 0 0 0))), some (pI (nI (brA A t))), some (pL ((gmI (pGm (qX A t w) (qX A b w) (brA A t)) (pc (qX A t w) (qX A b w)) (pD (qX A t w) (qX A b w) (q * 21 + r) i1) (tenL (2 * (aP A 0 0 0 - i1 - 1))) i33 (gmO (pGm (qX A t w) (qX A b w) (brA A t)) (pc (qX A t w) (qX A b w)) (pD (qX A t w) (qX A b w) (q * 21 + r) i1) (tenL (2 * (aP A 0 0 0 - i1 - 1))) (pM (qX A t w) (qX A b w) (brA A t) (q * 21 + r) (aP A 0 0 0) i1) i33) i44) + (((lN (pD (qX A t w) (qX A b w) (q * 21 + r) i1 i33 * pc (qX A t w) (qX A b w) i44)) * ((tenL (2 * (aP A 0 0 0 - i1 - 1))))) * (pG (qX A t w) (qX A b w) (brA A t) (i33 / 21) (i33 % 21) (i44 / 4) (i44 % 4))))), none, some (pI (nI i1)), some (pL ((tenL (2 * (aP A 0 0 0 - i1 - 1))))), none, some (pI (nI i33)), some (pI (nI (i44 + 1))), none, none, some (pL (pG (qX A t w) (qX A b w) (brA A t) (i33 / 21) (i33 % 21) (i44 / 4) (i44 % 4))), none, some (pI (nI (pLf (qX A t w) (qX A b w) (i33 / 21) (i33 % 21) (i44 / 4) (i44 % 4)))), some (pI (nI (pSp (qX A b w) (pRs (qX A b w) (i33 % 21) (i44 % 4))))), some (pI (nI (pTL (qX A t w) (qX A b w) (i33 / 21) (i33 % 21) (i44 / 4) (i44 % 4)))), some (pI (nI (pTM (qX A t w) (qX A b w) (i33 / 21) (i33 % 21) (i44 / 4) (i44 % 4))))]) 15 rfl ?_
                      refine J_drop (L' := [some (pR (some 158)), some (pI (nI t)), some (pI (nI b)), some (pI (nI q)), some (pI (nI r)), some (pI (nI w)), some (pI (nI (aP A 0 0 0))), some (pI (nI (brA A t))), some (pL ((gmI (pGm (qX A t w) (qX A b w) (brA A t)) (pc (qX A t w) (qX A b w)) (pD (qX A t w) (qX A b w) (q * 21 + r) i1) (tenL (2 * (aP A 0 0 0 - i1 - 1))) i33 (gmO (pGm (qX A t w) (qX A b w) (brA A t)) (pc (qX A t w) (qX A b w)) (pD (qX A t w) (qX A b w) (q * 21 + r) i1) (tenL (2 * (aP A 0 0 0 - i1 - 1))) (pM (qX A t w) (qX A b w) (brA A t) (q * 21 + r) (aP A 0 0 0) i1) i33) i44) + (((lN (pD (qX A t w) (qX A b w) (q * 21 + r) i1 i33 * pc (qX A t w) (qX A b w) i44)) * ((tenL (2 * (aP A 0 0 0 - i1 - 1))))) * (pG (qX A t w) (qX A b w) (brA A t) (i33 / 21) (i33 % 21) (i44 / 4) (i44 % 4))))), none, some (pI (nI i1)), some (pL ((tenL (2 * (aP A 0 0 0 - i1 - 1))))), none, some (pI (nI i33)), some (pI (nI (i44 + 1))), none, none, none, none, some (pI (nI (pLf (qX A t w) (qX A b w) (i33 / 21) (i33 % 21) (i44 / 4) (i44 % 4)))), some (pI (nI (pSp (qX A b w) (pRs (qX A b w) (i33 % 21) (i44 % 4))))), some (pI (nI (pTL (qX A t w) (qX A b w) (i33 / 21) (i33 % 21) (i44 / 4) (i44 % 4)))), some (pI (nI (pTM (qX A t w) (qX A b w) (i33 / 21) (i33 % 21) (i44 / 4) (i44 % 4))))]) 17 rfl ?_
                      refine J_drop (L' := [some (pR (some 158)), some (pI (nI t)), some (pI (nI b)), some (pI (nI q)), some (pI (nI r)), some (pI (nI w)), some (pI (nI (aP A 0 0 0))), some (pI (nI (brA A t))), some (pL ((gmI (pGm (qX A t w) (qX A b w) (brA A t)) (pc (qX A t w) (qX A b w)) (pD (qX A t w) (qX A b w) (q * 21 + r) i1) (tenL (2 * (aP A 0 0 0 - i1 - 1))) i33 (gmO (pGm (qX A t w) (qX A b w) (brA A t)) (pc (qX A t w) (qX A b w)) (pD (qX A t w) (qX A b w) (q * 21 + r) i1) (tenL (2 * (aP A 0 0 0 - i1 - 1))) (pM (qX A t w) (qX A b w) (brA A t) (q * 21 + r) (aP A 0 0 0) i1) i33) i44) + (((lN (pD (qX A t w) (qX A b w) (q * 21 + r) i1 i33 * pc (qX A t w) (qX A b w) i44)) * ((tenL (2 * (aP A 0 0 0 - i1 - 1))))) * (pG (qX A t w) (qX A b w) (brA A t) (i33 / 21) (i33 % 21) (i44 / 4) (i44 % 4))))), none, some (pI (nI i1)), some (pL ((tenL (2 * (aP A 0 0 0 - i1 - 1))))), none, some (pI (nI i33)), some (pI (nI (i44 + 1))), none, none, none, none, none, some (pI (nI (pSp (qX A b w) (pRs (qX A b w) (i33 % 21) (i44 % 4))))), some (pI (nI (pTL (qX A t w) (qX A b w) (i33 / 21) (i33 % 21) (i44 / 4) (i44 % 4)))), some (pI (nI (pTM (qX A t w) (qX A b w) (i33 / 21) (i33 % 21) (i44 / 4) (i44 % 4))))]) 19 rfl ?_
                      refine J_drop (L' := [some (pR (some 158)), some (pI (nI t)), some (pI (nI b)), some (pI (nI q)), some (pI (nI r)), some (pI (nI w)), some (pI (nI (aP A 0 0 0))), some (pI (nI (brA A t))), some (pL ((gmI (pGm (qX A t w) (qX A b w) (brA A t)) (pc (qX A t w) (qX A b w)) (pD (qX A t w) (qX A b w) (q * 21 + r) i1) (tenL (2 * (aP A 0 0 0 - i1 - 1))) i33 (gmO (pGm (qX A t w) (qX A b w) (brA A t)) (pc (qX A t w) (qX A b w)) (pD (qX A t w) (qX A b w) (q * 21 + r) i1) (tenL (2 * (aP A 0 0 0 - i1 - 1))) (pM (qX A t w) (qX A b w) (brA A t) (q * 21 + r) (aP A 0 0 0) i1) i33) i44) + (((lN (pD (qX A t w) (qX A b w) (q * 21 + r) i1 i33 * pc (qX A t w) (qX A b w) i44)) * ((tenL (2 * (aP A 0 0 0 - i1 - 1))))) * (pG (qX A t w) (qX A b w) (brA A t) (i33 / 21) (i33 % 21) (i44 / 4) (i44 % 4))))), none, some (pI (nI i1)), some (pL ((tenL (2 * (aP A 0 0 0 - i1 - 1))))), none, some (pI (nI i33)), some (pI (nI (i44 + 1))), none, none, none, none, none, none, some (pI (nI (pTL (qX A t w) (qX A b w) (i33 / 21) (i33 % 21) (i44 / 4) (i44 % 4)))), some (pI (nI (pTM (qX A t w) (qX A b w) (i33 / 21) (i33 % 21) (i44 / 4) (i44 % 4))))]) 20 rfl ?_
                      refine J_drop (L' := [some (pR (some 158)), some (pI (nI t)), some (pI (nI b)), some (pI (nI q)), some (pI (nI r)), some (pI (nI w)), some (pI (nI (aP A 0 0 0))), some (pI (nI (brA A t))), some (pL ((gmI (pGm (qX A t w) (qX A b w) (brA A t)) (pc (qX A t w) (qX A b w)) (pD (qX A t w) (qX A b w) (q * 21 + r) i1) (tenL (2 * (aP A 0 0 0 - i1 - 1))) i33 (gmO (pGm (qX A t w) (qX A b w) (brA A t)) (pc (qX A t w) (qX A b w)) (pD (qX A t w) (qX A b w) (q * 21 + r) i1) (tenL (2 * (aP A 0 0 0 - i1 - 1))) (pM (qX A t w) (qX A b w) (brA A t) (q * 21 + r) (aP A 0 0 0) i1) i33) i44) + (((lN (pD (qX A t w) (qX A b w) (q * 21 + r) i1 i33 * pc (qX A t w) (qX A b w) i44)) * ((tenL (2 * (aP A 0 0 0 - i1 - 1))))) * (pG (qX A t w) (qX A b w) (brA A t) (i33 / 21) (i33 % 21) (i44 / 4) (i44 % 4))))), none, some (pI (nI i1)), some (pL ((tenL (2 * (aP A 0 0 0 - i1 - 1))))), none, some (pI (nI i33)), some (pI (nI (i44 + 1))), none, none, none, none, none, none, none, some (pI (nI (pTM (qX A t w) (qX A b w) (i33 / 21) (i33 % 21) (i44 / 4) (i44 % 4))))]) 21 rfl ?_
                      refine J_drop (L' := [some (pR (some 158)), some (pI (nI t)), some (pI (nI b)), some (pI (nI q)), some (pI (nI r)), some (pI (nI w)), some (pI (nI (aP A 0 0 0))), some (pI (nI (brA A t))), some (pL ((gmI (pGm (qX A t w) (qX A b w) (brA A t)) (pc (qX A t w) (qX A b w)) (pD (qX A t w) (qX A b w) (q * 21 + r) i1) (tenL (2 * (aP A 0 0 0 - i1 - 1))) i33 (gmO (pGm (qX A t w) (qX A b w) (brA A t)) (pc (qX A t w) (qX A b w)) (pD (qX A t w) (qX A b w) (q * 21 + r) i1) (tenL (2 * (aP A 0 0 0 - i1 - 1))) (pM (qX A t w) (qX A b w) (brA A t) (q * 21 + r) (aP A 0 0 0) i1) i33) i44) + (((lN (pD (qX A t w) (qX A b w) (q * 21 + r) i1 i33 * pc (qX A t w) (qX A b w) i44)) * ((tenL (2 * (aP A 0 0 0 - i1 - 1))))) * (pG (qX A t w) (qX A b w) (brA A t) (i33 / 21) (i33 % 21) (i44 / 4) (i44 % 4))))), none, some (pI (nI i1)), some (pL ((tenL (2 * (aP A 0 0 0 - i1 - 1))))), none, some (pI (nI i33)), some (pI (nI (i44 + 1))), none, none, none, none, none, none, none, none]) 22 rfl ?_
                      refine J_L (L' := [some (pR (some 158)), some (pI (nI t)), some (pI (nI b)), some (pI (nI q)), some (pI (nI r)), some (pI (nI w)), some (pI (nI (aP A 0 0 0))), some (pI (nI (brA A t))), some (pL (gmI (pGm (qX A t w) (qX A b w) (brA A t)) (pc (qX A t w) (qX A b w)) (pD (qX A t w) (qX A b w) (q * 21 + r) i1) (tenL (2 * (aP A 0 0 0 - i1 - 1))) i33 (gmO (pGm (qX A t w) (qX A b w) (brA A t)) (pc (qX A t w) (qX A b w)) (pD (qX A t w) (qX A b w) (q * 21 + r) i1) (tenL (2 * (aP A 0 0 0 - i1 - 1))) (pM (qX A t w) (qX A b w) (brA A t) (q * 21 + r) (aP A 0 0 0) i1) i33) (i44 + 1))), none, some (pI (nI i1)), some (pL ((tenL (2 * (aP A 0 0 0 - i1 - 1))))), none, some (pI (nI i33)), some (pI (nI (i44 + 1))), none, none, none, none, none, none, none, none]) rfl ?_
                      exact ih44 () _ ⟨fun j hj => by
                  show _ = lN (gI (pNm (qX A t w) (qX A b w)) (pc (qX A t w) (qX A b w)) (pD (qX A t w) (qX A b w) (q * 21 + r) i1) i33 (gO (pNm (qX A t w) (qX A b w)) (pc (qX A t w) (qX A b w)) (pD (qX A t w) (qX A b w) (q * 21 + r) i1) i33) i44 j + (if j = pNm (qX A t w) (qX A b w) i33 i44 then pD (qX A t w) (qX A b w) (q * 21 + r) i1 i33 * pc (qX A t w) (qX A b w) i44 else 0))
                  by_cases z : j = pNm (qX A t w) (qX A b w) i33 i44
                  · rw [if_pos z, z]; exact rL_s
                  · rw [if_neg z, Nat.add_zero]; exact (rL_k z).trans ((fg2.l (by decide) (by decide) (by decide) (by decide)).trans ((fg1.l (by decide) (by decide) (by decide) (by decide)).trans (hM2 j hj))), fun j hj => (rL_c (by decide)).trans ((fg2.l (by decide) (by decide) (by decide) (by decide)).trans ((fg1.l (by decide) (by decide) (by decide) (by decide)).trans (hM3 j hj))), ((hQ.tr (.of fg1)).tr (.of fg2)).tr (MFr.sl (by decide) (by decide) (by decide))⟩
                    · have hzz : pD (qX A t w) (qX A b w) (q * 21 + r) i1 i33 * pc (qX A t w) (qX A b w) i44 = 0 := (lN_z (by omega)).mp d3
                      refine J_goto dX10_pairIn_192 ?_
                      refine J_iincN (n := 1) (L' := [some (pR (some 158)), some (pI (nI t)), some (pI (nI b)), some (pI (nI q)), some (pI (nI r)), some (pI (nI w)), some (pI (nI (aP A 0 0 0))), some (pI (nI (brA A t))), some (pL (gmI (pGm (qX A t w) (qX A b w) (brA A t)) (pc (qX A t w) (qX A b w)) (pD (qX A t w) (qX A b w) (q * 21 + r) i1) (tenL (2 * (aP A 0 0 0 - i1 - 1))) i33 (gmO (pGm (qX A t w) (qX A b w) (brA A t)) (pc (qX A t w) (qX A b w)) (pD (qX A t w) (qX A b w) (q * 21 + r) i1) (tenL (2 * (aP A 0 0 0 - i1 - 1))) (pM (qX A t w) (qX A b w) (brA A t) (q * 21 + r) (aP A 0 0 0) i1) i33) i44)), none, some (pI (nI i1)), some (pL ((tenL (2 * (aP A 0 0 0 - i1 - 1))))), none, some (pI (nI i33)), some (pI (nI (i44 + 1))), some (pL (lN (pD (qX A t w) (qX A b w) (q * 21 + r) i1 i33 * pc (qX A t w) (qX A b w) i44))), none, none, none, none, none, none, none]) dX10_pairIn_395 rfl (by decide) rfl ?_
                      refine J_goto dX10_pairIn_398 ?_
                      refine J_drop (L' := [some (pR (some 158)), some (pI (nI t)), some (pI (nI b)), some (pI (nI q)), some (pI (nI r)), some (pI (nI w)), some (pI (nI (aP A 0 0 0))), some (pI (nI (brA A t))), some (pL (gmI (pGm (qX A t w) (qX A b w) (brA A t)) (pc (qX A t w) (qX A b w)) (pD (qX A t w) (qX A b w) (q * 21 + r) i1) (tenL (2 * (aP A 0 0 0 - i1 - 1))) i33 (gmO (pGm (qX A t w) (qX A b w) (brA A t)) (pc (qX A t w) (qX A b w)) (pD (qX A t w) (qX A b w) (q * 21 + r) i1) (tenL (2 * (aP A 0 0 0 - i1 - 1))) (pM (qX A t w) (qX A b w) (brA A t) (q * 21 + r) (aP A 0 0 0) i1) i33) i44)), none, some (pI (nI i1)), some (pL ((tenL (2 * (aP A 0 0 0 - i1 - 1))))), none, some (pI (nI i33)), some (pI (nI (i44 + 1))), none, none, none, none, none, none, none, none]) 15 rfl ?_
                      have K := ih44 () _ ⟨fun j hj => (hM2 j hj).trans (by rw [gI_z hzz]), hM3, hQ⟩
                      rw [gmI_z hzz] at K
                      exact K
        · show J _ _ _ _ _ [some (pR (some 158)), some (pI (nI t)), some (pI (nI b)), some (pI (nI q)), some (pI (nI r)), some (pI (nI w)), some (pI (nI (aP A 0 0 0))), some (pI (nI (brA A t))), some (pL (pM (qX A t w) (qX A b w) (brA A t) (q * 21 + r) (aP A 0 0 0) i1)), none, some (pI (nI i1)), some (pL ((tenL (2 * (aP A 0 0 0 - i1 - 1))))), none, some (pI (nI i22)), none, none, none, none, none, none, none, none, none] _ _ h22
          obtain ⟨hK2, hK3, hQ⟩ := hI22
          have hM := hM0.mq hQ
          have hG := hQ.g hG0
          refine J_iload dX10_pairIn_95 rfl ?_
          refine J_sipush (x := nI 441) dX10_pairIn_97 (by decide) ?_
          refine J_icmp_geN dX10_pairIn_100 (by omega) (by omega) (fun c27 => ?_) (fun c27 => ?_)
          · exact (show False by omega).elim
          · refine J_aload_n dX10_pairIn_103 rfl ?_
            refine J_getR (r := some 181) dX10_pairIn_104 fX10_86 s158 (fun _ => rfl) (g158_45 hG) ?_
            refine J_iload dX10_pairIn_107 rfl ?_
            refine J_lconst (x := 0) dX10_pairIn_109 rfl ?_
            refine J_lastN dX10_pairIn_110 s181 (by decide) (by omega) ?_
            refine J_iincN (n := 1) (L' := [some (pR (some 158)), some (pI (nI t)), some (pI (nI b)), some (pI (nI q)), some (pI (nI r)), some (pI (nI w)), some (pI (nI (aP A 0 0 0))), some (pI (nI (brA A t))), some (pL (pM (qX A t w) (qX A b w) (brA A t) (q * 21 + r) (aP A 0 0 0) i1)), none, some (pI (nI i1)), some (pL ((tenL (2 * (aP A 0 0 0 - i1 - 1))))), none, some (pI (nI (i22 + 1))), none, none, none, none, none, none, none, none, none]) dX10_pairIn_111 rfl (by decide) rfl ?_
            refine J_goto dX10_pairIn_114 ?_
            exact ih22 () _ ⟨fun j hj => by
            by_cases z : j = i22
            · subst z; exact rL_s
            · exact (rL_k z).trans (hK2 j (by omega)), fun j hj => (rL_c (by decide)).trans (hK3 j hj), hQ.tr (MFr.sl (by decide) (by decide) (by decide))⟩
  · show J _ _ _ _ _ [some (pR (some 158)), some (pI (nI t)), some (pI (nI b)), some (pI (nI q)), some (pI (nI r)), some (pI (nI w)), some (pI (nI (aP A 0 0 0))), some (pI (nI (brA A t))), some (pI (nI i9)), none, none, none, none, none, none, none, none, none, none, none, none, none, none] _ _ h9
    obtain ⟨hI2, hQ⟩ := hI9
    have hM := hM0.mq hQ
    have hG := hQ.g hG0
    refine J_iload dX10_pairIn_29 rfl ?_
    refine J_sipush (x := nI 441) dX10_pairIn_31 (by decide) ?_
    refine J_icmp_geN dX10_pairIn_34 (by omega) (by omega) (fun c28 => ?_) (fun c28 => ?_)
    · exact (show False by omega).elim
    · refine J_aload_n dX10_pairIn_37 rfl ?_
      refine J_getR (r := some 180) dX10_pairIn_38 fX10_83 s158 (fun _ => rfl) (g158_44 hG) ?_
      refine J_iload dX10_pairIn_41 rfl ?_
      refine J_lconst (x := 0) dX10_pairIn_43 rfl ?_
      refine J_lastN dX10_pairIn_44 s180 (by decide) (by omega) ?_
      refine J_iincN (n := 1) (L' := [some (pR (some 158)), some (pI (nI t)), some (pI (nI b)), some (pI (nI q)), some (pI (nI r)), some (pI (nI w)), some (pI (nI (aP A 0 0 0))), some (pI (nI (brA A t))), some (pI (nI (i9 + 1))), none, none, none, none, none, none, none, none, none, none, none, none, none, none]) dX10_pairIn_45 rfl (by decide) rfl ?_
      refine J_goto dX10_pairIn_48 ?_
      exact ih9 () _ ⟨fun j hj => by
        by_cases z : j = i9
        · subst z; exact rL_s
        · exact (rL_k z).trans (hI2 j (by omega)), hQ.tr (MFr.sl (by decide) (by decide) (by decide))⟩
