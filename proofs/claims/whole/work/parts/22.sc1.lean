theorem c_X10_valueOf {h : PH} {t rk rl : Nat} {a : Nat → Nat} {m0 m1 m4 : Int64} (hG : GR h.2.2) (ht : t < 4) (hA : TMA h t a rk rl) (e0 : h.2.1 175 0 = m0) (e1 : h.2.1 175 1 = m1) (e4 : h.2.1 175 4 = m4) : CtL mX10_valueOf h [pR (some 158), pI (nI t)] (fun v h' => v = lN (a 2) * m0 - lN (a 3) * m1 + lN (a 4) * m4 ∧ h' = h) := by
  have b1 := (hA.1 1 (by decide)).2
  have b2 := (hA.1 2 (by decide)).2
  have b3 := (hA.1 3 (by decide)).2
  have b4 := (hA.1 4 (by decide)).2
  refine Ct.of (L := [some (pR (some 158)), some (pI (nI t))]) rfl rfl (Nat.le_of_ble_eq_true rfl) rfl ?_
  refine J_aload_n dX10_valueOf_0 rfl ?_
  refine J_iload_n dX10_valueOf_1 rfl ?_
  refine J_iconstN (n := 2) dX10_valueOf_2 ?_
  refine J_cVI (ci := 10) (c := 158) (as := [pI (nI t), pI (nI 2)]) (st := []) dX10_valueOf_3 lX10_246 okX10_of vX10_of s158 (by decide) rfl rfl rfl (Nat.le_of_ble_eq_true rfl) ⟨Nat.le_of_ble_eq_true rfl, Nat.le_of_ble_eq_true rfl⟩ CR.f (c_X10_of hG ht (by decide) (hA.1 2 (by decide)).1) (fun vq1 gq1 eq1 => ?_)
  obtain ⟨rfl, fq1⟩ := eq1
  rw [fq1]
  refine J_i2lN dX10_valueOf_6 (by omega) ?_
  refine J_aload_n dX10_valueOf_7 rfl ?_
  refine J_getR (r := some 175) dX10_valueOf_8 fX10_65 s158 (fun _ => rfl) (g158_34 hG) ?_
  refine J_iconstN (n := 0) dX10_valueOf_11 ?_
  refine J_laldN dX10_valueOf_12 s175 (by decide) (by omega) ?_
  refine J_cvL (e0) ?_
  refine J_lmul dX10_valueOf_13 ?_
  refine J_aload_n dX10_valueOf_14 rfl ?_
  refine J_iload_n dX10_valueOf_15 rfl ?_
  refine J_iconstN (n := 3) dX10_valueOf_16 ?_
  refine J_cVI (ci := 10) (c := 158) (as := [pI (nI t), pI (nI 3)]) (st := [pL ((lN (a 2)) * m0)]) dX10_valueOf_17 lX10_246 okX10_of vX10_of s158 (by decide) rfl rfl rfl (Nat.le_of_ble_eq_true rfl) ⟨Nat.le_of_ble_eq_true rfl, Nat.le_of_ble_eq_true rfl⟩ CR.f (c_X10_of hG ht (by decide) (hA.1 3 (by decide)).1) (fun vq2 gq2 eq2 => ?_)
  obtain ⟨rfl, fq2⟩ := eq2
  rw [fq2]
  refine J_i2lN dX10_valueOf_20 (by omega) ?_
  refine J_aload_n dX10_valueOf_21 rfl ?_
  refine J_getR (r := some 175) dX10_valueOf_22 fX10_65 s158 (fun _ => rfl) (g158_34 hG) ?_
  refine J_iconstN (n := 1) dX10_valueOf_25 ?_
  refine J_laldN dX10_valueOf_26 s175 (by decide) (by omega) ?_
  refine J_cvL (e1) ?_
  refine J_lmul dX10_valueOf_27 ?_
  refine J_lsub dX10_valueOf_28 ?_
  refine J_aload_n dX10_valueOf_29 rfl ?_
  refine J_iload_n dX10_valueOf_30 rfl ?_
  refine J_iconstN (n := 4) dX10_valueOf_31 ?_
  refine J_cVI (ci := 10) (c := 158) (as := [pI (nI t), pI (nI 4)]) (st := [pL (((lN (a 2)) * m0) - ((lN (a 3)) * m1))]) dX10_valueOf_32 lX10_246 okX10_of vX10_of s158 (by decide) rfl rfl rfl (Nat.le_of_ble_eq_true rfl) ⟨Nat.le_of_ble_eq_true rfl, Nat.le_of_ble_eq_true rfl⟩ CR.f (c_X10_of hG ht (by decide) (hA.1 4 (by decide)).1) (fun vq3 gq3 eq3 => ?_)
  obtain ⟨rfl, fq3⟩ := eq3
  rw [fq3]
  refine J_i2lN dX10_valueOf_35 (by omega) ?_
  refine J_aload_n dX10_valueOf_36 rfl ?_
  refine J_getR (r := some 175) dX10_valueOf_37 fX10_65 s158 (fun _ => rfl) (g158_34 hG) ?_
  refine J_iconstN (n := 4) dX10_valueOf_40 ?_
  refine J_laldN dX10_valueOf_41 s175 (by decide) (by omega) ?_
  refine J_cvL (e4) ?_
  refine J_lmul dX10_valueOf_42 ?_
  refine J_ladd dX10_valueOf_43 ?_
  exact J_retL dX10_valueOf_44 rfl ⟨rfl, rfl⟩
theorem c_X10_scoreIn {h0 : PH} {t w q W rk rl sf S M : Nat} {a u : Nat → Nat} (hG0 : GR h0.2.2) (ht : t < 4) (hA0 : TMA h0 t a rk rl) (hW : h0.1 160 0 = nI W) (bW : W ≤ 5) (k35 : h0.1 158 35 = hlp sf) (bsf : sf < 100) (hsl : sf ≠ 0 → h0.1 158 36 = nI S ∧ h0.1 158 37 = nI M ∧ S < 100 ∧ M ≤ 20 ∧ q ≤ 40) (hw : w < 4) (hU : WM h0 t w u) (bq : q < 60) : CtL mX10_scoreIn h0 [pR (some 158), pI (nI t), pI (nI q), pI (nI w)] (fun v h' => v = vF a rk rl u sf S M 0 q W - lN (a 1 * q) * tenL W ∧ h'.2.1 158 38 = CW rk rl (a 5) u sf S M 0 q W W ∧ FG h0 h') := by
  have b1 := (hA0.1 1 (by decide)).2
  refine Ct.of (L := [some (pR (some 158)), some (pI (nI t)), some (pI (nI q)), some (pI (nI w))]) rfl rfl (Nat.le_of_ble_eq_true rfl) rfl ?_
  refine J_aload_n dX10_scoreIn_0 rfl ?_
  refine J_iload_n dX10_scoreIn_1 rfl ?_
  refine J_iload_n dX10_scoreIn_2 rfl ?_
  refine J_iconstN (n := 0) dX10_scoreIn_3 ?_
  refine J_iload_n dX10_scoreIn_4 rfl ?_
  refine J_cVV (ci := 10) (c := 158) (as := [pI (nI t), pI (nI w), pI (nI 0), pI (nI q)]) (st := []) dX10_scoreIn_5 lX10_311 okX10_goThrough vX10_goThrough s158 (by decide) rfl rfl rfl (Nat.le_of_ble_eq_true rfl) ⟨Nat.le_of_ble_eq_true rfl, Nat.le_of_ble_eq_true rfl⟩ CR.f (c_X10_goThrough hG0 ht hw hA0.tm hU hW bW (Nat.zero_le W) bq k35 bsf hsl) (fun g1 x1 => ?_)
  obtain ⟨z1, ⟨z20, z21, z22, z23⟩, z3, z4, z5⟩ := x1
  have hG := z5.g hG0
  have hA := hA0.fg z5
  refine J_aload_n dX10_scoreIn_8 rfl ?_
  refine J_iload_n dX10_scoreIn_9 rfl ?_
  refine J_cVL (ci := 10) (c := 158) (as := [pI (nI t)]) (st := []) dX10_scoreIn_10 lX10_314 okX10_valueOf vX10_valueOf s158 (by decide) rfl rfl rfl (Nat.le_of_ble_eq_true rfl) ⟨Nat.le_of_ble_eq_true rfl, Nat.le_of_ble_eq_true rfl⟩ CR.f (c_X10_valueOf hG ht hA z20 z21 z3) (fun vq1 gq1 eq1 => ?_)
  obtain ⟨rfl, fq1⟩ := eq1
  rw [fq1]
  refine J_cvL (y := vF a rk rl u sf S M 0 q W) rfl ?_
  refine J_aload_n dX10_scoreIn_13 rfl ?_
  refine J_iload_n dX10_scoreIn_14 rfl ?_
  refine J_iconstN (n := 1) dX10_scoreIn_15 ?_
  refine J_cVI (ci := 10) (c := 158) (as := [pI (nI t), pI (nI 1)]) (st := [pL (vF a rk rl u sf S M 0 q W)]) dX10_scoreIn_16 lX10_246 okX10_of vX10_of s158 (by decide) rfl rfl rfl (Nat.le_of_ble_eq_true rfl) ⟨Nat.le_of_ble_eq_true rfl, Nat.le_of_ble_eq_true rfl⟩ CR.f (c_X10_of hG ht (by decide) (hA.1 1 (by decide)).1) (fun vq2 gq2 eq2 => ?_)
  obtain ⟨rfl, fq2⟩ := eq2
  rw [fq2]
  refine J_iload_n dX10_scoreIn_19 rfl ?_
  refine J_imulN dX10_scoreIn_20 ?_
  refine J_i2lN dX10_scoreIn_21 (mul_lt31 1000 1000 (by omega) (by omega) (by decide)) ?_
  refine J_aload_n dX10_scoreIn_22 rfl ?_
  refine J_aload_n dX10_scoreIn_23 rfl ?_
  refine J_getR (r := some 160) dX10_scoreIn_24 fX10_17 s158 (fun _ => rfl) (g158_12 hG) ?_
  refine J_iconstN (n := 0) dX10_scoreIn_27 ?_
  refine J_ialdN dX10_scoreIn_28 s160 (by decide) (by omega) ?_
  refine J_cvI (((z5.i (by decide) (by decide) (by decide) (by decide)).trans hW)) ?_
  refine J_cVL (ci := 10) (c := 158) (as := [pI (nI W)]) (st := [pL (lN (a 1 * q)), pL (vF a rk rl u sf S M 0 q W)]) dX10_scoreIn_29 lX10_290 okX10_tens vX10_tens s158 (by decide) rfl rfl rfl (Nat.le_of_ble_eq_true rfl) ⟨Nat.le_of_ble_eq_true rfl, Nat.le_of_ble_eq_true rfl⟩ CR.f (c_X10_tens (by omega)) (fun vq3 gq3 eq3 => ?_)
  obtain ⟨rfl, fq3⟩ := eq3
  rw [fq3]
  refine J_lmul dX10_scoreIn_32 ?_
  refine J_lsub dX10_scoreIn_33 ?_
  exact J_retL dX10_scoreIn_34 rfl ⟨rfl, z4, z5⟩
theorem c_X10_scoreOf {h0 : PH} {t q W rk rl n : Nat} {a x : Nat → Nat} {u : Nat → Nat → Nat} (hG0 : GR h0.2.2) (ht : t < 4) (hA0 : TMA h0 t a rk rl) (hW : h0.1 160 0 = nI W) (bW : W ≤ 5) (k35 : h0.1 158 35 = hlp 0) (hn0 : h0.1 160 2 = nI n) (bn : n ≤ 4) (hx : ∀ w, w < n → h0.1 164 (4 * w) = nI (x w) ∧ x w ≤ 10) (hU : ∀ w, w < n → WM h0 t w (u w)) (bq : q < 60) : CtL mX10_scoreOf h0 [pR (some 158), pI (nI t), pI (nI q)] (fun v h' => v = sL64 (fun w => lN (x w) * scB a rk rl (u w) W q) n ∧ FG h0 h') := by
  refine Ct.of (L := [some (pR (some 158)), some (pI (nI t)), some (pI (nI q)), none, none, none]) rfl rfl (Nat.le_of_ble_eq_true rfl) rfl ?_
  refine J_lconst (x := 0) dX10_scoreOf_0 rfl ?_
  refine J_lstore_n (L' := [some (pR (some 158)), some (pI (nI t)), some (pI (nI q)), some (pL 0), none, none]) dX10_scoreOf_1 (by decide) rfl ?_
  refine J_iconstN (n := 0) dX10_scoreOf_2 ?_
  refine J_istore (L' := [some (pR (some 158)), some (pI (nI t)), some (pI (nI q)), some (pL 0), none, some (pI (nI 0))]) dX10_scoreOf_3 (by decide) rfl ?_
  refine J_L (L' := [some (pR (some 158)), some (pI (nI t)), some (pI (nI q)), some (pL (sL64 (fun w => lN (x w) * scB a rk rl (u w) W q) 0)), none, some (pI (nI 0))]) rfl ?_
  refine J_forI (α := Unit) (L := fun i aa => [some (pR (some 158)), some (pI (nI t)), some (pI (nI q)), some (pL (sL64 (fun w => lN (x w) * scB a rk rl (u w) W q) i)), none, some (pI (nI i))]) (fun i aa h => FG h0 h) (e := n) (fun aa h hI => ?_) (fun i aa h hi hI ih => ?_) 0 (()) _ (by omega) (FG.rf)
  · show J _ _ _ _ _ [some (pR (some 158)), some (pI (nI t)), some (pI (nI q)), some (pL (sL64 (fun w => lN (x w) * scB a rk rl (u w) W q) n)), none, some (pI (nI n))] _ _ h
    have hG := hI.g hG0
    have hn := (hI.i (by decide) (by decide) (by decide) (by decide)).trans hn0
    refine J_iload dX10_scoreOf_5 rfl ?_
    refine J_aload_n dX10_scoreOf_7 rfl ?_
    refine J_getR (r := some 160) dX10_scoreOf_8 fX10_17 s158 (fun _ => rfl) (g158_12 hG) ?_
    refine J_iconstN (n := 2) dX10_scoreOf_11 ?_
    refine J_ialdN dX10_scoreOf_12 s160 (by decide) (by omega) ?_
    refine J_cvI (hn) ?_
    refine J_icmp_geN dX10_scoreOf_13 (by omega) (by omega) (fun c1 => ?_) (fun c1 => ?_)
    · refine J_lload_n dX10_scoreOf_41 rfl ?_
      exact J_retL dX10_scoreOf_42 rfl ⟨rfl, hI⟩
    · exact (show False by omega).elim
  · show J _ _ _ _ _ [some (pR (some 158)), some (pI (nI t)), some (pI (nI q)), some (pL (sL64 (fun w => lN (x w) * scB a rk rl (u w) W q) i)), none, some (pI (nI i))] _ _ h
    have hG := hI.g hG0
    have hn := (hI.i (by decide) (by decide) (by decide) (by decide)).trans hn0
    have bx := (hx i hi).2
    refine J_iload dX10_scoreOf_5 rfl ?_
    refine J_aload_n dX10_scoreOf_7 rfl ?_
    refine J_getR (r := some 160) dX10_scoreOf_8 fX10_17 s158 (fun _ => rfl) (g158_12 hG) ?_
    refine J_iconstN (n := 2) dX10_scoreOf_11 ?_
    refine J_ialdN dX10_scoreOf_12 s160 (by decide) (by omega) ?_
    refine J_cvI (hn) ?_
    refine J_icmp_geN dX10_scoreOf_13 (by omega) (by omega) (fun c2 => ?_) (fun c2 => ?_)
    · exact (show False by omega).elim
    · refine J_lload_n dX10_scoreOf_16 rfl ?_
      refine J_aload_n dX10_scoreOf_17 rfl ?_
      refine J_iload dX10_scoreOf_18 rfl ?_
      refine J_cVI (ci := 10) (c := 158) (as := [pI (nI i)]) (st := [pL (sL64 (fun w => lN (x w) * scB a rk rl (u w) W q) i)]) dX10_scoreOf_20 lX10_240 okX10_weight vX10_weight s158 (by decide) rfl rfl rfl (Nat.le_of_ble_eq_true rfl) ⟨Nat.le_of_ble_eq_true rfl, Nat.le_of_ble_eq_true rfl⟩ CR.f (c_X10_weight hG (by omega) ((hI.i (by decide) (by decide) (by decide) (by decide)).trans (hx i hi).1)) (fun vq3 gq3 eq3 => ?_)
      obtain ⟨rfl, fq3⟩ := eq3
      rw [fq3]
      refine J_i2lN dX10_scoreOf_23 (by omega) ?_
      refine J_aload_n dX10_scoreOf_24 rfl ?_
      refine J_iload_n dX10_scoreOf_25 rfl ?_
      refine J_iload_n dX10_scoreOf_26 rfl ?_
      refine J_iload dX10_scoreOf_27 rfl ?_
      have bx := (hx i hi).2
      refine J_cVL (ci := 10) (c := 158) (as := [pI (nI t), pI (nI q), pI (nI i)]) (st := [pL (lN (x i)), pL (sL64 (fun w => lN (x w) * scB a rk rl (u w) W q) i)]) dX10_scoreOf_29 lX10_317 okX10_scoreIn vX10_scoreIn s158 (by decide) rfl rfl rfl (Nat.le_of_ble_eq_true rfl) ⟨Nat.le_of_ble_eq_true rfl, Nat.le_of_ble_eq_true rfl⟩ CR.f (c_X10_scoreIn (sf := 0) (S := 0) (M := 0) (u := u i) hG ht (hA0.fg hI) ((hI.i (by decide) (by decide) (by decide) (by decide)).trans hW) bW ((hI.2.1 35 (by omega)).trans k35) (by decide) (fun z => absurd rfl z) (by omega) ((hU i hi).fg hI) bq) (fun v7 g7 e7 => ?_)
      obtain ⟨rfl, -, z2⟩ := e7
      refine J_cvL (y := scB a rk rl (u i) W q) (by rw [vF_eq (by omega) (Nat.zero_le W)]; rfl) ?_
      refine J_lmul dX10_scoreOf_32 ?_
      refine J_ladd dX10_scoreOf_33 ?_
      refine J_lstore_n (L' := [some (pR (some 158)), some (pI (nI t)), some (pI (nI q)), some (pL ((sL64 (fun w => lN (x w) * scB a rk rl (u w) W q) i) + ((lN (x i)) * (scB a rk rl (u i) W q)))), none, some (pI (nI i))]) dX10_scoreOf_34 (by decide) rfl ?_
      refine J_iincN (n := 1) (L' := [some (pR (some 158)), some (pI (nI t)), some (pI (nI q)), some (pL ((sL64 (fun w => lN (x w) * scB a rk rl (u w) W q) i) + ((lN (x i)) * (scB a rk rl (u i) W q)))), none, some (pI (nI (i + 1)))]) dX10_scoreOf_35 rfl (by decide) rfl ?_
      refine J_goto dX10_scoreOf_38 ?_
      refine J_L (L' := [some (pR (some 158)), some (pI (nI t)), some (pI (nI q)), some (pL (sL64 (fun w => lN (x w) * scB a rk rl (u w) W q) (i + 1))), none, some (pI (nI (i + 1)))]) rfl ?_
      exact ih () _ (hI.tr z2)
theorem c_X10_valueFrom {h0 : PH} {t fr st W rk rl n : Nat} {a x : Nat → Nat} {u : Nat → Nat → Nat} (hG0 : GR h0.2.2) (ht : t < 4) (hA0 : TMA h0 t a rk rl) (hW : h0.1 160 0 = nI W) (bW : W ≤ 5) (k35 : h0.1 158 35 = hlp 0) (hn0 : h0.1 160 2 = nI n) (bn : n ≤ 4) (hx : ∀ w, w < n → h0.1 164 (4 * w) = nI (x w) ∧ x w ≤ 10) (hU : ∀ w, w < n → WM h0 t w (u w)) (bfr : fr ≤ W) (bst : st < 60) : CtL mX10_valueFrom h0 [pR (some 158), pI (nI t), pI (nI fr), pI (nI st)] (fun v h' => v = sL64 (fun w => lN (x w) * VB rk rl (a 5) (u w) 0 (lN (a 2)) (-lN (a 3)) 0 0 1 (EV 0 (lN (a 4))) (W - fr) st) n ∧ FG h0 h') := by
  refine Ct.of (L := [some (pR (some 158)), some (pI (nI t)), some (pI (nI fr)), some (pI (nI st)), none, none, none]) rfl rfl (Nat.le_of_ble_eq_true rfl) rfl ?_
  refine J_lconst (x := 0) dX10_valueFrom_0 rfl ?_
  refine J_lstore (L' := [some (pR (some 158)), some (pI (nI t)), some (pI (nI fr)), some (pI (nI st)), some (pL 0), none, none]) dX10_valueFrom_1 (by decide) rfl ?_
  refine J_iconstN (n := 0) dX10_valueFrom_3 ?_
  refine J_istore (L' := [some (pR (some 158)), some (pI (nI t)), some (pI (nI fr)), some (pI (nI st)), some (pL 0), none, some (pI (nI 0))]) dX10_valueFrom_4 (by decide) rfl ?_
  refine J_L (L' := [some (pR (some 158)), some (pI (nI t)), some (pI (nI fr)), some (pI (nI st)), some (pL (sL64 (fun w => lN (x w) * VB rk rl (a 5) (u w) 0 (lN (a 2)) (-lN (a 3)) 0 0 1 (EV 0 (lN (a 4))) (W - fr) st) 0)), none, some (pI (nI 0))]) rfl ?_
  refine J_forI (α := Unit) (L := fun i aa => [some (pR (some 158)), some (pI (nI t)), some (pI (nI fr)), some (pI (nI st)), some (pL (sL64 (fun w => lN (x w) * VB rk rl (a 5) (u w) 0 (lN (a 2)) (-lN (a 3)) 0 0 1 (EV 0 (lN (a 4))) (W - fr) st) i)), none, some (pI (nI i))]) (fun i aa h => FG h0 h) (e := n) (fun aa h hI => ?_) (fun i aa h hi hI ih => ?_) 0 (()) _ (by omega) (FG.rf)
  · show J _ _ _ _ _ [some (pR (some 158)), some (pI (nI t)), some (pI (nI fr)), some (pI (nI st)), some (pL (sL64 (fun w => lN (x w) * VB rk rl (a 5) (u w) 0 (lN (a 2)) (-lN (a 3)) 0 0 1 (EV 0 (lN (a 4))) (W - fr) st) n)), none, some (pI (nI n))] _ _ h
    have hG := hI.g hG0
    have hn := (hI.i (by decide) (by decide) (by decide) (by decide)).trans hn0
    refine J_iload dX10_valueFrom_6 rfl ?_
    refine J_aload_n dX10_valueFrom_8 rfl ?_
    refine J_getR (r := some 160) dX10_valueFrom_9 fX10_17 s158 (fun _ => rfl) (g158_12 hG) ?_
    refine J_iconstN (n := 2) dX10_valueFrom_12 ?_
    refine J_ialdN dX10_valueFrom_13 s160 (by decide) (by omega) ?_
    refine J_cvI (hn) ?_
    refine J_icmp_geN dX10_valueFrom_14 (by omega) (by omega) (fun c1 => ?_) (fun c1 => ?_)
    · refine J_lload dX10_valueFrom_50 rfl ?_
      exact J_retL dX10_valueFrom_52 rfl ⟨rfl, hI⟩
    · exact (show False by omega).elim
  · show J _ _ _ _ _ [some (pR (some 158)), some (pI (nI t)), some (pI (nI fr)), some (pI (nI st)), some (pL (sL64 (fun w => lN (x w) * VB rk rl (a 5) (u w) 0 (lN (a 2)) (-lN (a 3)) 0 0 1 (EV 0 (lN (a 4))) (W - fr) st) i)), none, some (pI (nI i))] _ _ h
    have hG := hI.g hG0
    have hn := (hI.i (by decide) (by decide) (by decide) (by decide)).trans hn0
    refine J_iload dX10_valueFrom_6 rfl ?_
    refine J_aload_n dX10_valueFrom_8 rfl ?_
    refine J_getR (r := some 160) dX10_valueFrom_9 fX10_17 s158 (fun _ => rfl) (g158_12 hG) ?_
    refine J_iconstN (n := 2) dX10_valueFrom_12 ?_
    refine J_ialdN dX10_valueFrom_13 s160 (by decide) (by omega) ?_
    refine J_cvI (hn) ?_
    refine J_icmp_geN dX10_valueFrom_14 (by omega) (by omega) (fun c2 => ?_) (fun c2 => ?_)
    · exact (show False by omega).elim
    · refine J_aload_n dX10_valueFrom_17 rfl ?_
      refine J_iload_n dX10_valueFrom_18 rfl ?_
      refine J_iload dX10_valueFrom_19 rfl ?_
      refine J_iload_n dX10_valueFrom_21 rfl ?_
      refine J_iload_n dX10_valueFrom_22 rfl ?_
      refine J_cVV (ci := 10) (c := 158) (as := [pI (nI t), pI (nI i), pI (nI fr), pI (nI st)]) (st := []) dX10_valueFrom_23 lX10_311 okX10_goThrough vX10_goThrough s158 (by decide) rfl rfl rfl (Nat.le_of_ble_eq_true rfl) ⟨Nat.le_of_ble_eq_true rfl, Nat.le_of_ble_eq_true rfl⟩ CR.f (c_X10_goThrough (sf := 0) (S := 0) (M := 0) (u := u i) hG ht (by omega) (hA0.fg hI).tm ((hU i hi).fg hI) ((hI.i (by decide) (by decide) (by decide) (by decide)).trans hW) bW bfr bst ((hI.2.1 35 (by omega)).trans k35) (by decide) (fun z => absurd rfl z)) (fun g1 x1 => ?_)
      obtain ⟨z1, ⟨z20, z21, z22, z23⟩, z3, z4, z5⟩ := x1
      have hG := z5.g hG
      have hA := (hA0.fg hI).fg z5
      have bx := (hx i hi).2
      refine J_lload dX10_valueFrom_26 rfl ?_
      refine J_aload_n dX10_valueFrom_28 rfl ?_
      refine J_iload dX10_valueFrom_29 rfl ?_
      refine J_cVI (ci := 10) (c := 158) (as := [pI (nI i)]) (st := [pL (sL64 (fun w => lN (x w) * VB rk rl (a 5) (u w) 0 (lN (a 2)) (-lN (a 3)) 0 0 1 (EV 0 (lN (a 4))) (W - fr) st) i)]) dX10_valueFrom_31 lX10_240 okX10_weight vX10_weight s158 (by decide) rfl rfl rfl (Nat.le_of_ble_eq_true rfl) ⟨Nat.le_of_ble_eq_true rfl, Nat.le_of_ble_eq_true rfl⟩ CR.f (c_X10_weight hG (by omega) (((hI.tr z5).i (by decide) (by decide) (by decide) (by decide)).trans (hx i hi).1)) (fun vq3 gq3 eq3 => ?_)
      obtain ⟨rfl, fq3⟩ := eq3
      rw [fq3]
      refine J_i2lN dX10_valueFrom_34 (by omega) ?_
      refine J_aload_n dX10_valueFrom_35 rfl ?_
      refine J_iload_n dX10_valueFrom_36 rfl ?_
      refine J_cVL (ci := 10) (c := 158) (as := [pI (nI t)]) (st := [pL (lN (x i)), pL (sL64 (fun w => lN (x w) * VB rk rl (a 5) (u w) 0 (lN (a 2)) (-lN (a 3)) 0 0 1 (EV 0 (lN (a 4))) (W - fr) st) i)]) dX10_valueFrom_37 lX10_314 okX10_valueOf vX10_valueOf s158 (by decide) rfl rfl rfl (Nat.le_of_ble_eq_true rfl) ⟨Nat.le_of_ble_eq_true rfl, Nat.le_of_ble_eq_true rfl⟩ CR.f (c_X10_valueOf hG ht hA z20 z21 z3) (fun vq4 gq4 eq4 => ?_)
      obtain ⟨rfl, fq4⟩ := eq4
      rw [fq4]
      refine J_cvL (y := VB rk rl (a 5) (u i) 0 (lN (a 2)) (-lN (a 3)) 0 0 1 (EV 0 (lN (a 4))) (W - fr) st) (vF_eq (S := 0) (M := 0) (by omega) bfr) ?_
      refine J_lmul dX10_valueFrom_40 ?_
      refine J_ladd dX10_valueFrom_41 ?_
      refine J_lstore (L' := [some (pR (some 158)), some (pI (nI t)), some (pI (nI fr)), some (pI (nI st)), some (pL ((sL64 (fun w => lN (x w) * VB rk rl (a 5) (u w) 0 (lN (a 2)) (-lN (a 3)) 0 0 1 (EV 0 (lN (a 4))) (W - fr) st) i) + ((lN (x i)) * (VB rk rl (a 5) (u i) 0 (lN (a 2)) (-lN (a 3)) 0 0 1 (EV 0 (lN (a 4))) (W - fr) st)))), none, some (pI (nI i))]) dX10_valueFrom_42 (by decide) rfl ?_
      refine J_iincN (n := 1) (L' := [some (pR (some 158)), some (pI (nI t)), some (pI (nI fr)), some (pI (nI st)), some (pL ((sL64 (fun w => lN (x w) * VB rk rl (a 5) (u w) 0 (lN (a 2)) (-lN (a 3)) 0 0 1 (EV 0 (lN (a 4))) (W - fr) st) i) + ((lN (x i)) * (VB rk rl (a 5) (u i) 0 (lN (a 2)) (-lN (a 3)) 0 0 1 (EV 0 (lN (a 4))) (W - fr) st)))), none, some (pI (nI (i + 1)))]) dX10_valueFrom_44 rfl (by decide) rfl ?_
      refine J_goto dX10_valueFrom_47 ?_
      refine J_L (L' := [some (pR (some 158)), some (pI (nI t)), some (pI (nI fr)), some (pI (nI st)), some (pL (sL64 (fun w => lN (x w) * VB rk rl (a 5) (u w) 0 (lN (a 2)) (-lN (a 3)) 0 0 1 (EV 0 (lN (a 4))) (W - fr) st) (i + 1))), none, some (pI (nI (i + 1)))]) rfl ?_
      exact ih () _ (hI.tr z5)
