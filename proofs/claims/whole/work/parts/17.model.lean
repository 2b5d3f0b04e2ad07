theorem c_X10_in {h : PH} {v lo hi : Int32} : CtI mX10_in h [pI v, pI lo, pI hi] (fun r h' => r = bI (lo ≤ v ∧ v ≤ hi) ∧ h' = h) := by
  refine Ct.of (L := [some (pI v), some (pI lo), some (pI hi)]) rfl rfl (Nat.le_of_ble_eq_true rfl) rfl ?_
  refine J_iload_n dX10_in_0 rfl ?_
  refine J_iload_n dX10_in_1 rfl ?_
  refine J_icmp_lt dX10_in_2 (fun c1 => ?_) (fun c1 => ?_)
  · refine J_iconstN (n := 0) dX10_in_14 ?_
    exact J_retZ dX10_in_15 rfl rfl ⟨by first | exact bI_t ⟨Int32.not_lt.mp c1, Int32.not_lt.mp c2⟩ | exact bI_f (fun q => absurd c1 (Int32.not_lt.mpr q.1)) | exact bI_f (fun q => absurd c2 (Int32.not_lt.mpr q.2)), rfl⟩
  · refine J_iload_n dX10_in_5 rfl ?_
    refine J_iload_n dX10_in_6 rfl ?_
    refine J_icmp_gt dX10_in_7 (fun c2 => ?_) (fun c2 => ?_)
    · refine J_iconstN (n := 0) dX10_in_14 ?_
      exact J_retZ dX10_in_15 rfl rfl ⟨by first | exact bI_t ⟨Int32.not_lt.mp c1, Int32.not_lt.mp c2⟩ | exact bI_f (fun q => absurd c1 (Int32.not_lt.mpr q.1)) | exact bI_f (fun q => absurd c2 (Int32.not_lt.mpr q.2)), rfl⟩
    · refine J_iconstN (n := 1) dX10_in_10 ?_
      refine J_goto dX10_in_11 ?_
      exact J_retZ dX10_in_15 rfl rfl ⟨by first | exact bI_t ⟨Int32.not_lt.mp c1, Int32.not_lt.mp c2⟩ | exact bI_f (fun q => absurd c1 (Int32.not_lt.mpr q.1)) | exact bI_f (fun q => absurd c2 (Int32.not_lt.mpr q.2)), rfl⟩
theorem c_X10_least {h : PH} {x y : Nat} (bx : x < 2 ^ 31) (by_ : y < 2 ^ 31) : CtI mX10_least h [pI (nI x), pI (nI y)] (fun r h' => r = nI (min x y) ∧ h' = h) := by
  refine Ct.of (L := [some (pI (nI x)), some (pI (nI y))]) rfl rfl (Nat.le_of_ble_eq_true rfl) rfl ?_
  refine J_iload_n dX10_least_0 rfl ?_
  refine J_iload_n dX10_least_1 rfl ?_
  refine J_icmp_geN dX10_least_2 (by omega) (by omega) (fun c1 => ?_) (fun c1 => ?_)
  · refine J_iload_n dX10_least_9 rfl ?_
    exact J_retI dX10_least_10 rfl ⟨by congr 1; omega, rfl⟩
  · refine J_iload_n dX10_least_5 rfl ?_
    refine J_goto dX10_least_6 ?_
    exact J_retI dX10_least_10 rfl ⟨by congr 1; omega, rfl⟩
theorem c_X10_isThing {h : PH} {t : Int32} {n : Nat} (hG : GR h.2.2) (hn : h.1 160 3 = nI n) (bn : n < 1000) : CtI mX10_isThing h [pR (some 158), pI t] (fun r h' => r = bI (inR t n) ∧ h' = h) := by
  refine Ct.of (L := [some (pR (some 158)), some (pI t)]) rfl rfl (Nat.le_of_ble_eq_true rfl) rfl ?_
  refine J_iload_n dX10_isThing_0 rfl ?_
  refine J_iconstN (n := 0) dX10_isThing_1 ?_
  refine J_aload_n dX10_isThing_2 rfl ?_
  refine J_getR (r := some 160) dX10_isThing_3 fX10_17 s158 (fun _ => rfl) (g158_12 hG) ?_
  refine J_iconstN (n := 3) dX10_isThing_6 ?_
  refine J_ialdN dX10_isThing_7 s160 (by decide) (by omega) ?_
  refine J_cvI (hn) ?_
  refine J_iconstN (n := 1) dX10_isThing_8 ?_
  refine J_isub dX10_isThing_9 ?_
  refine J_cSI (as := [pI t, pI (nI 0), pI ((nI n) - (nI 1))]) (st := []) dX10_isThing_10 lX10_172 okX10_in sX10_in rfl rfl (Nat.le_of_ble_eq_true rfl) ⟨Nat.le_of_ble_eq_true rfl, Nat.le_of_ble_eq_true rfl⟩ CR.f (c_X10_in) (fun vq1 gq1 eq1 => ?_)
  obtain ⟨rfl, fq1⟩ := eq1
  rw [fq1]
  exact J_retZ dX10_isThing_13 rfl (bI_nar _) ⟨bI_congr (in_iff (by omega)), rfl⟩
theorem c_X10_isWinter {h : PH} {t : Int32} {n : Nat} (hG : GR h.2.2) (hn : h.1 160 2 = nI n) (bn : n < 1000) : CtI mX10_isWinter h [pR (some 158), pI t] (fun r h' => r = bI (inR t n) ∧ h' = h) := by
  refine Ct.of (L := [some (pR (some 158)), some (pI t)]) rfl rfl (Nat.le_of_ble_eq_true rfl) rfl ?_
  refine J_iload_n dX10_isWinter_0 rfl ?_
  refine J_iconstN (n := 0) dX10_isWinter_1 ?_
  refine J_aload_n dX10_isWinter_2 rfl ?_
  refine J_getR (r := some 160) dX10_isWinter_3 fX10_17 s158 (fun _ => rfl) (g158_12 hG) ?_
  refine J_iconstN (n := 2) dX10_isWinter_6 ?_
  refine J_ialdN dX10_isWinter_7 s160 (by decide) (by omega) ?_
  refine J_cvI (hn) ?_
  refine J_iconstN (n := 1) dX10_isWinter_8 ?_
  refine J_isub dX10_isWinter_9 ?_
  refine J_cSI (as := [pI t, pI (nI 0), pI ((nI n) - (nI 1))]) (st := []) dX10_isWinter_10 lX10_172 okX10_in sX10_in rfl rfl (Nat.le_of_ble_eq_true rfl) ⟨Nat.le_of_ble_eq_true rfl, Nat.le_of_ble_eq_true rfl⟩ CR.f (c_X10_in) (fun vq1 gq1 eq1 => ?_)
  obtain ⟨rfl, fq1⟩ := eq1
  rw [fq1]
  exact J_retZ dX10_isWinter_13 rfl (bI_nar _) ⟨bI_congr (in_iff (by omega)), rfl⟩
theorem c_X10_isOrder {h : PH} {t : Int32} : CtI mX10_isOrder h [pI t] (fun r h' => r = bI (inR t 41) ∧ h' = h) := by
  refine Ct.of (L := [some (pI t)]) rfl rfl (Nat.le_of_ble_eq_true rfl) rfl ?_
  refine J_iload_n dX10_isOrder_0 rfl ?_
  refine J_iconstN (n := 0) dX10_isOrder_1 ?_
  refine J_bipush (x := nI 40) dX10_isOrder_2 (by decide) ?_
  refine J_cSI (as := [pI t, pI (nI 0), pI (nI 40)]) (st := []) dX10_isOrder_4 lX10_172 okX10_in sX10_in rfl rfl (Nat.le_of_ble_eq_true rfl) ⟨Nat.le_of_ble_eq_true rfl, Nat.le_of_ble_eq_true rfl⟩ CR.f (c_X10_in) (fun vq1 gq1 eq1 => ?_)
  obtain ⟨rfl, fq1⟩ := eq1
  rw [fq1]
  exact J_retZ dX10_isOrder_7 rfl (bI_nar _) ⟨bI_congr (in_iffN (by decide)), rfl⟩
theorem c_X10_hasWinters {h : PH} {n : Nat} (hG : GR h.2.2) (hn : h.1 160 2 = nI n) (bn : n < 1000) : CtI mX10_hasWinters h [pR (some 158)] (fun r h' => r = bI (0 < n) ∧ h' = h) := by
  refine Ct.of (L := [some (pR (some 158))]) rfl rfl (Nat.le_of_ble_eq_true rfl) rfl ?_
  refine J_aload_n dX10_hasWinters_0 rfl ?_
  refine J_getR (r := some 160) dX10_hasWinters_1 fX10_17 s158 (fun _ => rfl) (g158_12 hG) ?_
  refine J_iconstN (n := 2) dX10_hasWinters_4 ?_
  refine J_ialdN dX10_hasWinters_5 s160 (by decide) (by omega) ?_
  refine J_cvI (hn) ?_
  refine J_if_leN dX10_hasWinters_6 (by omega) (fun c1 => ?_) (fun c1 => ?_)
  · refine J_iconstN (n := 0) dX10_hasWinters_13 ?_
    exact J_retZ dX10_hasWinters_14 rfl rfl ⟨by first | exact bI_t (by omega) | exact bI_f (by omega), rfl⟩
  · refine J_iconstN (n := 1) dX10_hasWinters_9 ?_
    refine J_goto dX10_hasWinters_10 ?_
    exact J_retZ dX10_hasWinters_14 rfl rfl ⟨by first | exact bI_t (by omega) | exact bI_f (by omega), rfl⟩
theorem c_X10_of {h : PH} {t a x : Nat} (hG : GR h.2.2) (ht : t < 4) (ha : a < 6) (hx : h.1 165 (6 * t + a) = nI x) : CtI mX10_of h [pR (some 158), pI (nI t), pI (nI a)] (fun r h' => r = nI x ∧ h' = h) := by
  refine Ct.of (L := [some (pR (some 158)), some (pI (nI t)), some (pI (nI a))]) rfl rfl (Nat.le_of_ble_eq_true rfl) rfl ?_
  refine J_aload_n dX10_of_0 rfl ?_
  refine J_getR (r := some 165) dX10_of_1 fX10_34 s158 (fun _ => rfl) (g158_17 hG) ?_
  refine J_bipush (x := nI 6) dX10_of_4 (by decide) ?_
  refine J_iload_n dX10_of_6 rfl ?_
  refine J_imulN dX10_of_7 ?_
  refine J_iload_n dX10_of_8 rfl ?_
  refine J_iaddN dX10_of_9 ?_
  refine J_ialdN dX10_of_10 s165 (by decide) (by omega) ?_
  refine J_cvI (hx) ?_
  exact J_retI dX10_of_11 rfl ⟨rfl, rfl⟩
theorem c_X10_weight {h : PH} {w x : Nat} (hG : GR h.2.2) (hw : w < 4) (hx : h.1 164 (4 * w) = nI x) : CtI mX10_weight h [pR (some 158), pI (nI w)] (fun r h' => r = nI x ∧ h' = h) := by
  refine Ct.of (L := [some (pR (some 158)), some (pI (nI w))]) rfl rfl (Nat.le_of_ble_eq_true rfl) rfl ?_
  refine J_aload_n dX10_weight_0 rfl ?_
  refine J_getR (r := some 164) dX10_weight_1 fX10_31 s158 (fun _ => rfl) (g158_16 hG) ?_
  refine J_iconstN (n := 4) dX10_weight_4 ?_
  refine J_iload_n dX10_weight_5 rfl ?_
  refine J_imulN dX10_weight_6 ?_
  refine J_ialdN dX10_weight_7 s164 (by decide) (by omega) ?_
  refine J_cvI (hx) ?_
  exact J_retI dX10_weight_8 rfl ⟨rfl, rfl⟩
theorem c_X10_chance {h : PH} {t w n x : Nat} (hG : GR h.2.2) (ht : t < 4) (hw : w < 4) (hn : n < 5) (hx : h.1 166 (5 * (4 * t + w) + n) = nI x) : CtI mX10_chance h [pR (some 158), pI (nI t), pI (nI w), pI (nI n)] (fun r h' => r = nI x ∧ h' = h) := by
  refine Ct.of (L := [some (pR (some 158)), some (pI (nI t)), some (pI (nI w)), some (pI (nI n))]) rfl rfl (Nat.le_of_ble_eq_true rfl) rfl ?_
  refine J_aload_n dX10_chance_0 rfl ?_
  refine J_getR (r := some 166) dX10_chance_1 fX10_37 s158 (fun _ => rfl) (g158_18 hG) ?_
  refine J_iconstN (n := 5) dX10_chance_4 ?_
  refine J_iconstN (n := 4) dX10_chance_5 ?_
  refine J_iload_n dX10_chance_6 rfl ?_
  refine J_imulN dX10_chance_7 ?_
  refine J_iload_n dX10_chance_8 rfl ?_
  refine J_iaddN dX10_chance_9 ?_
  refine J_imulN dX10_chance_10 ?_
  refine J_iload_n dX10_chance_11 rfl ?_
  refine J_iaddN dX10_chance_12 ?_
  refine J_ialdN dX10_chance_13 s166 (by decide) (by omega) ?_
  refine J_cvI (hx) ?_
  exact J_retI dX10_chance_14 rfl ⟨rfl, rfl⟩
theorem c_X10_above {h : PH} {t x rk rl : Nat} (hG : GR h.2.2) (ht : t < 4) (hr : h.1 171 t = nI rk) (hl : h.1 172 t = nI rl) (br : rk < 1000) (bl : rl < 1000) (bx : x < 1000) : CtI mX10_above h [pR (some 158), pI (nI t), pI (nI x)] (fun r h' => r = nI (spN rk rl x) ∧ h' = h) := by
  refine Ct.of (L := [some (pR (some 158)), some (pI (nI t)), some (pI (nI x))]) rfl rfl (Nat.le_of_ble_eq_true rfl) rfl ?_
  refine J_aload_n dX10_above_0 rfl ?_
  refine J_getR (r := some 171) dX10_above_1 fX10_53 s158 (fun _ => rfl) (g158_25 hG) ?_
  refine J_iload_n dX10_above_4 rfl ?_
  refine J_ialdN dX10_above_5 s171 (by decide) (by omega) ?_
  refine J_cvI (hr) ?_
  refine J_iconstN (n := 1) dX10_above_6 ?_
  refine J_icmp_eqN dX10_above_7 (by omega) (by omega) (fun c1 => ?_) (fun c1 => ?_)
  · refine J_iload_n dX10_above_14 rfl ?_
    refine J_aload_n dX10_above_15 rfl ?_
    refine J_getR (r := some 172) dX10_above_16 fX10_56 s158 (fun _ => rfl) (g158_26 hG) ?_
    refine J_iload_n dX10_above_19 rfl ?_
    refine J_ialdN dX10_above_20 s172 (by decide) (by omega) ?_
    refine J_cvI (hl) ?_
    refine J_icmp_leN dX10_above_21 (by omega) (by omega) (fun c2 => ?_) (fun c2 => ?_)
    · refine J_iconstN (n := 0) dX10_above_35 ?_
      exact J_retI dX10_above_36 rfl ⟨by grind [spN], rfl⟩
    · refine J_iload_n dX10_above_24 rfl ?_
      refine J_aload_n dX10_above_25 rfl ?_
      refine J_getR (r := some 172) dX10_above_26 fX10_56 s158 (fun _ => rfl) (g158_26 hG) ?_
      refine J_iload_n dX10_above_29 rfl ?_
      refine J_ialdN dX10_above_30 s172 (by decide) (by omega) ?_
      refine J_cvI (hl) ?_
      refine J_isubN dX10_above_31 (by omega) ?_
      refine J_goto dX10_above_32 ?_
      exact J_retI dX10_above_36 rfl ⟨by grind [spN], rfl⟩
  · refine J_iload_n dX10_above_10 rfl ?_
    refine J_goto dX10_above_11 ?_
    exact J_retI dX10_above_36 rfl ⟨by grind [spN], rfl⟩
theorem c_X10_spoils {h : PH} {t x so : Nat} (hG : GR h.2.2) (ht : t < 4) (hs : h.1 165 (6 * t + 5) = nI so) (bs : so < 1000) (bs1 : so ≠ 1) (bx : x < 1000) : CtI mX10_spoils h [pR (some 158), pI (nI t), pI (nI x)] (fun r h' => r = nI (slN so x) ∧ h' = h) := by
  refine Ct.of (L := [some (pR (some 158)), some (pI (nI t)), some (pI (nI x))]) rfl rfl (Nat.le_of_ble_eq_true rfl) rfl ?_
  refine J_aload_n dX10_spoils_0 rfl ?_
  refine J_iload_n dX10_spoils_1 rfl ?_
  refine J_iconstN (n := 5) dX10_spoils_2 ?_
  refine J_cVI (ci := 10) (c := 158) (as := [pI (nI t), pI (nI 5)]) (st := []) dX10_spoils_3 lX10_246 okX10_of vX10_of s158 (by decide) rfl rfl rfl (Nat.le_of_ble_eq_true rfl) ⟨Nat.le_of_ble_eq_true rfl, Nat.le_of_ble_eq_true rfl⟩ CR.f (c_X10_of hG ht (by decide) hs) (fun vq1 gq1 eq1 => ?_)
  obtain ⟨rfl, fq1⟩ := eq1
  rw [fq1]
  refine J_if_neN dX10_spoils_6 (by omega) (fun c2 => ?_) (fun c2 => ?_)
  · refine J_iload_n dX10_spoils_13 rfl ?_
    refine J_aload_n dX10_spoils_14 rfl ?_
    refine J_iload_n dX10_spoils_15 rfl ?_
    refine J_iconstN (n := 5) dX10_spoils_16 ?_
    refine J_cVI (ci := 10) (c := 158) (as := [pI (nI t), pI (nI 5)]) (st := [pI (nI x)]) dX10_spoils_17 lX10_246 okX10_of vX10_of s158 (by decide) rfl rfl rfl (Nat.le_of_ble_eq_true rfl) ⟨Nat.le_of_ble_eq_true rfl, Nat.le_of_ble_eq_true rfl⟩ CR.f (c_X10_of hG ht (by decide) hs) (fun vq3 gq3 eq3 => ?_)
    obtain ⟨rfl, fq3⟩ := eq3
    rw [fq3]
    refine J_idivN dX10_spoils_20 (by omega) (by omega) (by omega) ?_
    exact J_retI dX10_spoils_21 rfl ⟨by rw [slN_eq bs1]; grind, rfl⟩
  · refine J_iconstN (n := 0) dX10_spoils_9 ?_
    refine J_goto dX10_spoils_10 ?_
    exact J_retI dX10_spoils_21 rfl ⟨by rw [slN_eq bs1]; grind, rfl⟩
theorem c_X10_tens {h : PH} {n : Nat} (hn : n < 1000) : CtL mX10_tens h [pR (some 158), pI (nI n)] (fun v h' => v = tenL n ∧ h' = h) := by
  refine Ct.of (L := [some (pR (some 158)), some (pI (nI n)), none, none, none]) rfl rfl (Nat.le_of_ble_eq_true rfl) rfl ?_
  refine J_lconst (x := 1) dX10_tens_0 rfl ?_
  refine J_lstore_n (L' := [some (pR (some 158)), some (pI (nI n)), some (pL 1), none, none]) dX10_tens_1 (by decide) rfl ?_
  refine J_iconstN (n := 0) dX10_tens_2 ?_
  refine J_istore (L' := [some (pR (some 158)), some (pI (nI n)), some (pL 1), none, some (pI (nI 0))]) dX10_tens_3 (by decide) rfl ?_
  refine J_L (L' := [some (pR (some 158)), some (pI (nI n)), some (pL (tenL 0)), none, some (pI (nI 0))]) rfl ?_
  refine J_for (L := fun i => [some (pR (some 158)), some (pI (nI n)), some (pL (tenL i)), none, some (pI (nI i))]) (hf := fun i => h) (e := n) ?_ (fun i hi ih => ?_) 0 (by omega)
  · show J _ _ _ _ _ [some (pR (some 158)), some (pI (nI n)), some (pL (tenL n)), none, some (pI (nI n))] _ _ (h)
    refine J_iload dX10_tens_5 rfl ?_
    refine J_iload_n dX10_tens_7 rfl ?_
    refine J_icmp_geN dX10_tens_8 (by omega) (by omega) (fun c1 => ?_) (fun c1 => ?_)
    · refine J_lload_n dX10_tens_23 rfl ?_
      exact J_retL dX10_tens_24 rfl ⟨rfl, rfl⟩
    · exact (show False by omega).elim
  · show J _ _ _ _ _ [some (pR (some 158)), some (pI (nI n)), some (pL (tenL i)), none, some (pI (nI i))] _ _ (h)
    refine J_iload dX10_tens_5 rfl ?_
    refine J_iload_n dX10_tens_7 rfl ?_
    refine J_icmp_geN dX10_tens_8 (by omega) (by omega) (fun c2 => ?_) (fun c2 => ?_)
    · exact (show False by omega).elim
    · refine J_lload_n dX10_tens_11 rfl ?_
      refine J_ldc2 dX10_tens_12 kX10_281 ?_
      refine J_lmul dX10_tens_15 ?_
      refine J_lstore_n (L' := [some (pR (some 158)), some (pI (nI n)), some (pL ((tenL i) * 10)), none, some (pI (nI i))]) dX10_tens_16 (by decide) rfl ?_
      refine J_iincN (n := 1) (L' := [some (pR (some 158)), some (pI (nI n)), some (pL ((tenL i) * 10)), none, some (pI (nI (i + 1)))]) dX10_tens_17 rfl (by decide) rfl ?_
      refine J_goto dX10_tens_20 ?_
      exact ih
theorem c_X10_give {h : PH} {t w s wa rk rl so : Nat} {u : Nat → Nat} (hG : GR h.2.2) (ht : t < 4) (hw : w < 4) (hT : TM h t rk rl so) (hU : WM h t w u) (bs : s < 1000) (bw : wa < 1000) : CtV mX10_give h [pR (some 158), pI (nI t), pI (nI w), pI (nI s), pI (nI wa)] (fun h' => h' = sI (sI (sI (sI h 158 27 (nI (gvN rk rl s wa (u 4)))) 158 28 (nI (lkN s wa (u 4)))) 158 29 (nI (msN rk rl s wa (u 4)))) 158 31 (nI (rsN rk rl s wa (u 4)))) := by
  obtain ⟨-, -, -, b1, b2, b3, -⟩ := id hT
  have u4 := (hU 4 (by decide)).2
  have q1 := nm_le s wa (u 4)
  have q2 := wm_le rk rl s wa (u 4)
  have q3 := gv_le rk rl s wa (u 4)
  have q4 := ws_le rk rl s wa (u 4)
  have q5 := spN_le rk rl (s - nmN s wa (u 4))
  have q6 := gv_eq rk rl s wa (u 4)
  refine Ct.of (L := [some (pR (some 158)), some (pI (nI t)), some (pI (nI w)), some (pI (nI s)), some (pI (nI wa)), none, none, none, none, none]) rfl rfl (Nat.le_of_ble_eq_true rfl) rfl ?_
  have K49 : J mX10_give (RF mX10_give) SHF (ZV (fun h' => h' = sI (sI (sI (sI h 158 27 (nI (gvN rk rl s wa (u 4)))) 158 28 (nI (lkN s wa (u 4)))) 158 29 (nI (msN rk rl s wa (u 4)))) 158 31 (nI (rsN rk rl s wa (u 4))))) 49 [some (pR (some 158)), some (pI (nI t)), some (pI (nI w)), some (pI (nI s)), some (pI (nI wa)), some (pI (nI (min wa (u 4)))), some (pI (nI (wsN rk rl s wa (u 4)))), none, none, none] [] SHF h := by
    refine J_iload dX10_give_49 rfl ?_
    refine J_iload_n dX10_give_51 rfl ?_
    refine J_cSI (as := [pI (nI (min wa (u 4))), pI (nI s)]) (st := []) dX10_give_52 lX10_253 okX10_least sX10_least rfl rfl (Nat.le_of_ble_eq_true rfl) ⟨Nat.le_of_ble_eq_true rfl, Nat.le_of_ble_eq_true rfl⟩ CR.f (c_X10_least (by omega) (by omega)) (fun vq1 gq1 eq1 => ?_)
    obtain ⟨rfl, fq1⟩ := eq1
    rw [fq1]
    refine J_cvI (y := nI (nmN s wa (u 4))) rfl ?_
    refine J_istore (L' := [some (pR (some 158)), some (pI (nI t)), some (pI (nI w)), some (pI (nI s)), some (pI (nI wa)), some (pI (nI (min wa (u 4)))), some (pI (nI (wsN rk rl s wa (u 4)))), some (pI (nI (nmN s wa (u 4)))), none, none]) dX10_give_55 (by decide) rfl ?_
    refine J_aload_n dX10_give_57 rfl ?_
    refine J_iload_n dX10_give_58 rfl ?_
    refine J_iload_n dX10_give_59 rfl ?_
    refine J_iload dX10_give_60 rfl ?_
    refine J_isubN dX10_give_62 (by omega) ?_
    refine J_cVI (ci := 10) (c := 158) (as := [pI (nI t), pI (nI (s - nmN s wa (u 4)))]) (st := []) dX10_give_63 lX10_256 okX10_above vX10_above s158 (by decide) rfl rfl rfl (Nat.le_of_ble_eq_true rfl) ⟨Nat.le_of_ble_eq_true rfl, Nat.le_of_ble_eq_true rfl⟩ CR.f (c_X10_above hG ht hT.1 hT.2.1 b1 b2 (by omega)) (fun vq2 gq2 eq2 => ?_)
    obtain ⟨rfl, fq2⟩ := eq2
    rw [fq2]
    refine J_istore (L' := [some (pR (some 158)), some (pI (nI t)), some (pI (nI w)), some (pI (nI s)), some (pI (nI wa)), some (pI (nI (min wa (u 4)))), some (pI (nI (wsN rk rl s wa (u 4)))), some (pI (nI (nmN s wa (u 4)))), some (pI (nI (spN rk rl (s - nmN s wa (u 4))))), none]) dX10_give_66 (by decide) rfl ?_
    refine J_iload dX10_give_68 rfl ?_
    refine J_iload dX10_give_70 rfl ?_
    refine J_cSI (as := [pI (nI (wsN rk rl s wa (u 4))), pI (nI (spN rk rl (s - nmN s wa (u 4))))]) (st := []) dX10_give_72 lX10_253 okX10_least sX10_least rfl rfl (Nat.le_of_ble_eq_true rfl) ⟨Nat.le_of_ble_eq_true rfl, Nat.le_of_ble_eq_true rfl⟩ CR.f (c_X10_least (by omega) (by omega)) (fun vq3 gq3 eq3 => ?_)
    obtain ⟨rfl, fq3⟩ := eq3
    rw [fq3]
    refine J_cvI (y := nI (wmN rk rl s wa (u 4))) rfl ?_
    refine J_istore (L' := [some (pR (some 158)), some (pI (nI t)), some (pI (nI w)), some (pI (nI s)), some (pI (nI wa)), some (pI (nI (min wa (u 4)))), some (pI (nI (wsN rk rl s wa (u 4)))), some (pI (nI (nmN s wa (u 4)))), some (pI (nI (spN rk rl (s - nmN s wa (u 4))))), some (pI (nI (wmN rk rl s wa (u 4))))]) dX10_give_75 (by decide) rfl ?_
    refine J_aload_n dX10_give_77 rfl ?_
    refine J_iload dX10_give_78 rfl ?_
    refine J_iload dX10_give_80 rfl ?_
    refine J_iaddN dX10_give_82 ?_
    refine J_putI dX10_give_83 fX10_259 s158 rfl (vp_nar_int _) rfl (fun _ _ => rfl) ?_
    refine J_aload_n dX10_give_86 rfl ?_
    refine J_iload dX10_give_87 rfl ?_
    refine J_iload dX10_give_89 rfl ?_
    refine J_isubN dX10_give_91 (by omega) ?_
    refine J_putI dX10_give_92 fX10_262 s158 rfl (vp_nar_int _) rfl (fun _ _ => rfl) ?_
    refine J_aload_n dX10_give_95 rfl ?_
    refine J_iload dX10_give_96 rfl ?_
    refine J_iload dX10_give_98 rfl ?_
    refine J_isubN dX10_give_100 (by omega) ?_
    refine J_putI dX10_give_101 fX10_265 s158 rfl (vp_nar_int _) rfl (fun _ _ => rfl) ?_
    refine J_aload_n dX10_give_104 rfl ?_
    refine J_iload_n dX10_give_105 rfl ?_
    refine J_aload_n dX10_give_106 rfl ?_
    refine J_getI dX10_give_107 fX10_259 s158 (fun _ => rfl) ?_
    refine J_cvI ((rI_k (by decide)).trans ((rI_k (by decide)).trans (rI_s))) ?_
    refine J_isubN dX10_give_110 (by omega) ?_
    refine J_putI dX10_give_111 fX10_268 s158 rfl (vp_nar_int _) rfl (fun _ _ => rfl) ?_
    exact J_retV dX10_give_114 rfl rfl
  refine J_iload dX10_give_0 rfl ?_
  refine J_aload_n dX10_give_2 rfl ?_
  refine J_iload_n dX10_give_3 rfl ?_
  refine J_iload_n dX10_give_4 rfl ?_
  refine J_iconstN (n := 4) dX10_give_5 ?_
  refine J_cVI (ci := 10) (c := 158) (as := [pI (nI t), pI (nI w), pI (nI 4)]) (st := [pI (nI wa)]) dX10_give_6 lX10_249 okX10_chance vX10_chance s158 (by decide) rfl rfl rfl (Nat.le_of_ble_eq_true rfl) ⟨Nat.le_of_ble_eq_true rfl, Nat.le_of_ble_eq_true rfl⟩ CR.f (c_X10_chance hG ht hw (by decide) (hU 4 (by decide)).1) (fun vq4 gq4 eq4 => ?_)
  obtain ⟨rfl, fq4⟩ := eq4
  rw [fq4]
  refine J_cSI (as := [pI (nI wa), pI (nI (u 4))]) (st := []) dX10_give_9 lX10_253 okX10_least sX10_least rfl rfl (Nat.le_of_ble_eq_true rfl) ⟨Nat.le_of_ble_eq_true rfl, Nat.le_of_ble_eq_true rfl⟩ CR.f (c_X10_least (by omega) (by omega)) (fun vq5 gq5 eq5 => ?_)
  obtain ⟨rfl, fq5⟩ := eq5
  rw [fq5]
  refine J_istore (L' := [some (pR (some 158)), some (pI (nI t)), some (pI (nI w)), some (pI (nI s)), some (pI (nI wa)), some (pI (nI (min wa (u 4)))), none, none, none, none]) dX10_give_12 (by decide) rfl ?_
  refine J_iload dX10_give_14 rfl ?_
  refine J_iload dX10_give_16 rfl ?_
  refine J_isubN dX10_give_18 (by omega) ?_
  refine J_istore (L' := [some (pR (some 158)), some (pI (nI t)), some (pI (nI w)), some (pI (nI s)), some (pI (nI wa)), some (pI (nI (min wa (u 4)))), some (pI (nI (wa - min wa (u 4)))), none, none, none]) dX10_give_19 (by decide) rfl ?_
  refine J_aload_n dX10_give_21 rfl ?_
  refine J_getR (r := some 171) dX10_give_22 fX10_53 s158 (fun _ => rfl) (g158_25 hG) ?_
  refine J_iload_n dX10_give_25 rfl ?_
  refine J_ialdN dX10_give_26 s171 (by decide) (by omega) ?_
  refine J_cvI (hT.1) ?_
  refine J_iconstN (n := 2) dX10_give_27 ?_
  refine J_icmp_neN dX10_give_28 (by omega) (by omega) (fun c6 => ?_) (fun c6 => ?_)
  · refine J_L (L' := [some (pR (some 158)), some (pI (nI t)), some (pI (nI w)), some (pI (nI s)), some (pI (nI wa)), some (pI (nI (min wa (u 4)))), some (pI (nI (wsN rk rl s wa (u 4)))), none, none, none]) (by grind [wsN]) ?_
    exact K49
  · refine J_iload_n dX10_give_31 rfl ?_
    refine J_aload_n dX10_give_32 rfl ?_
    refine J_getR (r := some 172) dX10_give_33 fX10_56 s158 (fun _ => rfl) (g158_26 hG) ?_
    refine J_iload_n dX10_give_36 rfl ?_
    refine J_ialdN dX10_give_37 s172 (by decide) (by omega) ?_
    refine J_cvI (hT.2.1) ?_
    refine J_icmp_gtN dX10_give_38 (by omega) (by omega) (fun c7 => ?_) (fun c7 => ?_)
    · refine J_L (L' := [some (pR (some 158)), some (pI (nI t)), some (pI (nI w)), some (pI (nI s)), some (pI (nI wa)), some (pI (nI (min wa (u 4)))), some (pI (nI (wsN rk rl s wa (u 4)))), none, none, none]) (by grind [wsN]) ?_
      exact K49
    · refine J_iload dX10_give_41 rfl ?_
      refine J_if_leN dX10_give_43 (by omega) (fun c8 => ?_) (fun c8 => ?_)
      · refine J_L (L' := [some (pR (some 158)), some (pI (nI t)), some (pI (nI w)), some (pI (nI s)), some (pI (nI wa)), some (pI (nI (min wa (u 4)))), some (pI (nI (wsN rk rl s wa (u 4)))), none, none, none]) (by grind [wsN]) ?_
        exact K49
      · refine J_iincM (n := 1) (L' := [some (pR (some 158)), some (pI (nI t)), some (pI (nI w)), some (pI (nI s)), some (pI (nI wa)), some (pI (nI (min wa (u 4)))), some (pI (nI (wa - min wa (u 4) - 1))), none, none, none]) dX10_give_46 (by omega) rfl (by decide) rfl ?_
        refine J_L (L' := [some (pR (some 158)), some (pI (nI t)), some (pI (nI w)), some (pI (nI s)), some (pI (nI wa)), some (pI (nI (min wa (u 4)))), some (pI (nI (wsN rk rl s wa (u 4)))), none, none, none]) (by grind [wsN]) ?_
        exact K49
theorem c_X10_week {h : PH} {t w s wa rk rl so : Nat} {u : Nat → Nat} (hG : GR h.2.2) (ht : t < 4) (hw : w < 4) (hT : TM h t rk rl so) (hU : WM h t w u) (bs : s < 1000) (bw : wa < 1000) : CtV mX10_week h [pR (some 158), pI (nI t), pI (nI w), pI (nI s), pI (nI wa)] (fun h' => h' = sI (sI (sI (sI (sI (sI h 158 27 (nI (gvN rk rl s wa (u 4)))) 158 28 (nI (lkN s wa (u 4)))) 158 29 (nI (msN rk rl s wa (u 4)))) 158 31 (nI (rsN rk rl s wa (u 4)))) 158 30 (nI (slN so (rsN rk rl s wa (u 4))))) 158 31 (nI (nxN rk rl so (u 4) s wa))) := by
  obtain ⟨-, -, -, b1, b2, b3, b4⟩ := id hT
  have q1 := rs_le rk rl s wa (u 4)
  have q2 := sl_le so (rsN rk rl s wa (u 4))
  refine Ct.of (L := [some (pR (some 158)), some (pI (nI t)), some (pI (nI w)), some (pI (nI s)), some (pI (nI wa))]) rfl rfl (Nat.le_of_ble_eq_true rfl) rfl ?_
  refine J_aload_n dX10_week_0 rfl ?_
  refine J_iload_n dX10_week_1 rfl ?_
  refine J_iload_n dX10_week_2 rfl ?_
  refine J_iload_n dX10_week_3 rfl ?_
  refine J_iload dX10_week_4 rfl ?_
  refine J_cVV (ci := 10) (c := 158) (as := [pI (nI t), pI (nI w), pI (nI s), pI (nI wa)]) (st := []) dX10_week_6 lX10_271 okX10_give vX10_give s158 (by decide) rfl rfl rfl (Nat.le_of_ble_eq_true rfl) ⟨Nat.le_of_ble_eq_true rfl, Nat.le_of_ble_eq_true rfl⟩ CR.f (c_X10_give hG ht hw hT hU bs bw) (fun g1 e1 => ?_)
  subst e1
  refine J_aload_n dX10_week_9 rfl ?_
  refine J_aload_n dX10_week_10 rfl ?_
  refine J_iload_n dX10_week_11 rfl ?_
  refine J_aload_n dX10_week_12 rfl ?_
  refine J_getI dX10_week_13 fX10_268 s158 (fun _ => rfl) ?_
  refine J_cvI (rI_s) ?_
  refine J_cVI (ci := 10) (c := 158) (as := [pI (nI t), pI (nI (rsN rk rl s wa (u 4)))]) (st := [pR (some 158)]) dX10_week_16 lX10_275 okX10_spoils vX10_spoils s158 (by decide) rfl rfl rfl (Nat.le_of_ble_eq_true rfl) ⟨Nat.le_of_ble_eq_true rfl, Nat.le_of_ble_eq_true rfl⟩ CR.f (c_X10_spoils hG ht ((rI_c (by decide)).trans ((rI_c (by decide)).trans ((rI_c (by decide)).trans ((rI_c (by decide)).trans (hT.2.2.1))))) b3 b4 (by omega)) (fun v2 g2 e2 => ?_)
  obtain ⟨rfl, f2⟩ := e2
  rw [f2]
  refine J_putI dX10_week_19 fX10_278 s158 rfl (vp_nar_int _) rfl (fun _ _ => rfl) ?_
  refine J_aload_n dX10_week_22 rfl ?_
  refine J_dup dX10_week_23 rfl ?_
  refine J_getI dX10_week_24 fX10_268 s158 (fun _ => rfl) ?_
  refine J_cvI ((rI_k (by decide)).trans (rI_s)) ?_
  refine J_aload_n dX10_week_27 rfl ?_
  refine J_getI dX10_week_28 fX10_278 s158 (fun _ => rfl) ?_
  refine J_cvI (rI_s) ?_
  refine J_isubN dX10_week_31 (by omega) ?_
  refine J_putI dX10_week_32 fX10_268 s158 rfl (vp_nar_int _) rfl (fun _ _ => rfl) ?_
  exact J_retV dX10_week_35 rfl rfl
