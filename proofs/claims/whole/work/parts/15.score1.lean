theorem CtV.and {M : MD} {h : PH} {as : List PV} {P : PH → Prop} (hc : CtV M h as P) {P' : PH → Prop} (hq : ∀ h', P h' → P' h') : CtV M h as P' := hc.mono hq
theorem c_X2_scoreRow {h0 : PH} {p th pa n k m rk rl : Nat} {a : Nat → Nat} {u : Nat → Nat → Nat} {x : Nat → Int64} (hG0 : GR h0.2.2) (hp : IsPo p) (hth : IsTh th) (hT0 : TA h0 th a rk rl) (hn : h0.1 p 3 = nI n) (bn : n ≤ 4) (hk : h0.1 p 0 = nI k) (bk : k < 50) (hpa : SHF[pa]? = some (.inr (3, 4)) ∧ (pa < 92 ∨ 97 < pa)) (hx : ∀ w, w < n → h0.2.1 pa w = x w) (hU : ∀ w, w < n → WA h0 (th + 2 + w) (u w)) (bm : m < 61) : CtV mX2_scoreRow h0 [pR (some 92), pR (some p), pR (some th), pR (some pa), pI (nI m)] (fun h' => (∀ s, s ≤ m → h'.2.1 94 s = scR a rk rl u x k n s) ∧ Fr 92 97 h0 h') := by
  have hl1 := hth.lt
  have hl2 := hp.lt
  have hl3 := hpa.2
  refine Ct.of (L := [some (pR (some 92)), some (pR (some p)), some (pR (some th)), some (pR (some pa)), some (pI (nI m)), none, none, none]) rfl rfl (Nat.le_of_ble_eq_true rfl) rfl ?_
  refine J_aload_n dX2_scoreRow_0 rfl ?_
  refine J_aload_n dX2_scoreRow_1 rfl ?_
  refine J_cVV (ci := 2) (c := 92) (as := [pR (some th)]) (st := []) dX2_scoreRow_2 lX2_128 okX2_valueMoney vX2_valueMoney s92 (by decide) rfl rfl rfl (Nat.le_of_ble_eq_true rfl) ⟨Nat.le_of_ble_eq_true rfl, Nat.le_of_ble_eq_true rfl⟩ CR.f (c_X2_valueMoney hG0 hth (hT0.1 2 (by decide)).1 (hT0.1 3 (by decide)).1 (hT0.1 4 (by decide)).1 (hT0.1 2 (by decide)).2 (hT0.1 3 (by decide)).2 (hT0.1 4 (by decide)).2) (fun g1 e1 => ?_)
  obtain ⟨q1, q2, q3⟩ := e1
  refine J_aload_n dX2_scoreRow_5 rfl ?_
  refine J_aload_n dX2_scoreRow_6 rfl ?_
  refine J_aload_n dX2_scoreRow_7 rfl ?_
  refine J_aload_n dX2_scoreRow_8 rfl ?_
  refine J_aload_n dX2_scoreRow_9 rfl ?_
  refine J_getI dX2_scoreRow_10 fX2_131 hp.s (fun _ => rfl) ?_
  refine J_cvI ((q3.i (by omega)).trans (hk)) ?_
  refine J_iload dX2_scoreRow_13 rfl ?_
  refine J_cVV (ci := 2) (c := 92) (as := [pR (some p), pR (some th), pR (some pa), pI (nI k), pI (nI m)]) (st := []) dX2_scoreRow_15 lX2_134 okX2_passAny vX2_passAny s92 (by decide) rfl rfl rfl (Nat.le_of_ble_eq_true rfl) ⟨Nat.le_of_ble_eq_true rfl, Nat.le_of_ble_eq_true rfl⟩ CR.f (c_X2_passAny (rk := rk) (rl := rl) (so := a 5) (u := u) (x := x) (q3.g hG0) hp hth hpa ((q3.i (by omega)).trans hn) bn (fun w hw => (q3.l (by omega)).trans (hx w hw)) (hT0.fr q3 (by omega)).th (fun w hw => (hU w hw).fr q3 (by omega)) q1 q2 (by omega) (by omega)) (fun g2 e2 => ?_)
  obtain ⟨q4, q4b⟩ := e2
  have q5 := (q3.mo (by omega) (by omega) : Fr 92 97 h0 g1).tr q4b.1
  refine J_lconst (x := 0) dX2_scoreRow_18 rfl ?_
  refine J_lstore (L' := [some (pR (some 92)), some (pR (some p)), some (pR (some th)), some (pR (some pa)), some (pI (nI m)), some (pL 0), none, none]) dX2_scoreRow_19 (by decide) rfl ?_
  refine J_iconstN (n := 0) dX2_scoreRow_21 ?_
  refine J_istore (L' := [some (pR (some 92)), some (pR (some p)), some (pR (some th)), some (pR (some pa)), some (pI (nI m)), some (pL 0), none, some (pI (nI 0))]) dX2_scoreRow_22 (by decide) rfl ?_
  refine J_L (L' := [some (pR (some 92)), some (pR (some p)), some (pR (some th)), some (pR (some pa)), some (pI (nI m)), some (pL (sL64 x 0)), none, some (pI (nI 0))]) rfl ?_
  refine J_for (L := fun i => [some (pR (some 92)), some (pR (some p)), some (pR (some th)), some (pR (some pa)), some (pI (nI m)), some (pL (sL64 x i)), none, some (pI (nI i))]) (hf := fun i => g2) (e := n) ?_ (fun i hi ih => ?_) 0 (by omega)
  · show J _ _ _ _ _ [some (pR (some 92)), some (pR (some p)), some (pR (some th)), some (pR (some pa)), some (pI (nI m)), some (pL (sL64 x n)), none, some (pI (nI n))] _ _ (g2)
    refine J_iload dX2_scoreRow_24 rfl ?_
    refine J_aload_n dX2_scoreRow_26 rfl ?_
    refine J_getI dX2_scoreRow_27 fX2_119 hp.s (fun _ => rfl) ?_
    refine J_cvI ((q5.i (by omega)).trans (hn)) ?_
    refine J_icmp_geN dX2_scoreRow_30 (by omega) (by omega) (fun c1 => ?_) (fun c1 => ?_)
    · refine J_aload_n dX2_scoreRow_48 rfl ?_
      refine J_aload_n dX2_scoreRow_49 rfl ?_
      refine J_iload dX2_scoreRow_50 rfl ?_
      refine J_lload dX2_scoreRow_52 rfl ?_
      refine J_aload_n dX2_scoreRow_54 rfl ?_
      refine J_getI dX2_scoreRow_55 fX2_131 hp.s (fun _ => rfl) ?_
      refine J_cvI ((q5.i (by omega)).trans (hk)) ?_
      refine J_cNL (as := [pI (nI k)]) (st := [pL (sL64 x n), pI (nI m), pR (some th), pR (some 92)]) dX2_scoreRow_58 lX2_138 okX9_tenTo sX9_tenTo rfl rfl (Nat.le_of_ble_eq_true rfl) ⟨Nat.le_of_ble_eq_true rfl, Nat.le_of_ble_eq_true rfl⟩ CR.f (c_X9_tenTo (by omega)) (fun v5 g5 e5 => ?_)
      obtain ⟨rfl, e5b⟩ := e5
      rw [e5b]
      refine J_lmul dX2_scoreRow_61 ?_
      refine J_cVV (ci := 2) (c := 92) (as := [pR (some th), pI (nI m), pL ((sL64 x n) * (tenL k))]) (st := []) dX2_scoreRow_62 lX2_142 okX2_payFor vX2_payFor s92 (by decide) rfl rfl rfl (Nat.le_of_ble_eq_true rfl) ⟨Nat.le_of_ble_eq_true rfl, Nat.le_of_ble_eq_true rfl⟩ CR.f (c_X2_payFor (q5.g hG0) hth ((q5.i (by omega)).trans (hT0.1 1 (by decide)).1) (hT0.1 1 (by decide)).2 (by omega)) (fun g6 e6 => ?_)
      subst e6
      exact J_retV dX2_scoreRow_65 rfl ⟨fun s hs => by rw [rWL_s, fil_in (by omega), q4 s hs]; rfl, q5.tr (Fr.wL (by omega) (by omega))⟩
    · exact (show False by omega).elim
  · show J _ _ _ _ _ [some (pR (some 92)), some (pR (some p)), some (pR (some th)), some (pR (some pa)), some (pI (nI m)), some (pL (sL64 x i)), none, some (pI (nI i))] _ _ (g2)
    refine J_iload dX2_scoreRow_24 rfl ?_
    refine J_aload_n dX2_scoreRow_26 rfl ?_
    refine J_getI dX2_scoreRow_27 fX2_119 hp.s (fun _ => rfl) ?_
    refine J_cvI ((q5.i (by omega)).trans (hn)) ?_
    refine J_icmp_geN dX2_scoreRow_30 (by omega) (by omega) (fun c2 => ?_) (fun c2 => ?_)
    · exact (show False by omega).elim
    · refine J_lload dX2_scoreRow_33 rfl ?_
      refine J_aload_n dX2_scoreRow_35 rfl ?_
      refine J_iload dX2_scoreRow_36 rfl ?_
      refine J_laldN dX2_scoreRow_38 hpa.1 (by decide) (by omega) ?_
      refine J_cvL ((q5.l (by omega)).trans ((hx i hi))) ?_
      refine J_ladd dX2_scoreRow_39 ?_
      refine J_lstore (L' := [some (pR (some 92)), some (pR (some p)), some (pR (some th)), some (pR (some pa)), some (pI (nI m)), some (pL ((sL64 x i) + (x i))), none, some (pI (nI i))]) dX2_scoreRow_40 (by decide) rfl ?_
      refine J_iincN (n := 1) (L' := [some (pR (some 92)), some (pR (some p)), some (pR (some th)), some (pR (some pa)), some (pI (nI m)), some (pL ((sL64 x i) + (x i))), none, some (pI (nI (i + 1)))]) dX2_scoreRow_42 rfl (by decide) rfl ?_
      refine J_goto dX2_scoreRow_45 ?_
      exact ih
theorem c_X2_passSledgeWinter {h : PH} {th w rk rl f S M c k q : Nat} {a u : Nat → Nat} (hG0 : GR h.2.2) (hth : IsTh th) (hw : w < 4) (hT : TA h th a rk rl) (hU : WA h (th + 2 + w) u) (hO : OL h 0 (lN (a 2)) (-lN (a 3)) 0 0) (hE : h.2.1 92 10 = lN (a 4)) (k12 : h.1 92 12 = nI f) (k13 : h.1 92 13 = nI S) (k14 : h.1 92 14 = nI M) (k15 : h.1 92 15 = nI c) (bf : f ≤ k) (bk : k < 50) (bS : S < 100) (bM : 1 ≤ M) (bM2 : M ≤ 20) (bc : c < 1000) (bq : q ≤ 40) : CtV mX2_passSledgeWinter h [pR (some 92), pR (some th), pI (nI w), pI (nI k), pI (nI q)] (fun h' => (∀ s, s ≤ q → h'.2.1 93 s = sgW a rk rl u f S M c k s) ∧ FP h h' ∧ h'.2.1 94 = h.2.1 94) := by
  have hl1 := hth.lt
  have hG := hG0
  refine Ct.of (L := [some (pR (some 92)), some (pR (some th)), some (pI (nI w)), some (pI (nI k)), some (pI (nI q)), none]) rfl rfl (Nat.le_of_ble_eq_true rfl) rfl ?_
  refine J_aload_n dX2_passSledgeWinter_0 rfl ?_
  refine J_iload dX2_passSledgeWinter_1 rfl ?_
  refine J_aload_n dX2_passSledgeWinter_3 rfl ?_
  refine J_getI dX2_passSledgeWinter_4 fX2_155 s92 (fun _ => rfl) ?_
  refine J_cvI (k14) ?_
  refine J_iaddN dX2_passSledgeWinter_7 ?_
  refine J_cVV (ci := 2) (c := 92) (as := [pI (nI (q + M))]) (st := []) dX2_passSledgeWinter_8 lX2_109 okX2_valueEnd vX2_valueEnd s92 (by decide) rfl rfl rfl (Nat.le_of_ble_eq_true rfl) ⟨Nat.le_of_ble_eq_true rfl, Nat.le_of_ble_eq_true rfl⟩ CR.f (c_X2_valueEnd (sf := 0) (pe := lN (a 4)) hG (hO.1) (by decide) (hE) (by omega)) (fun g1 e1 => ?_)
  subst e1
  have f1 : FO h (sL (wL h 93 (fil (EV 0 (lN (a 4))) (q + M + 1) (h.2.1 93))) 92 11 1) := (FO.wl (Or.inl rfl)).tr FO.ways
  refine J_aload_n dX2_passSledgeWinter_11 rfl ?_
  refine J_aload_n dX2_passSledgeWinter_12 rfl ?_
  refine J_iload_n dX2_passSledgeWinter_13 rfl ?_
  refine J_iload_n dX2_passSledgeWinter_14 rfl ?_
  refine J_aload_n dX2_passSledgeWinter_15 rfl ?_
  refine J_getI dX2_passSledgeWinter_16 fX2_149 s92 (fun _ => rfl) ?_
  refine J_cvI ((xIL).trans ((xIL).trans (k12))) ?_
  refine J_isubN dX2_passSledgeWinter_19 (by omega) ?_
  refine J_iload dX2_passSledgeWinter_20 rfl ?_
  refine J_aload_n dX2_passSledgeWinter_22 rfl ?_
  refine J_getI dX2_passSledgeWinter_23 fX2_155 s92 (fun _ => rfl) ?_
  refine J_cvI ((xIL).trans ((xIL).trans (k14))) ?_
  refine J_iaddN dX2_passSledgeWinter_26 ?_
  refine J_cVV (ci := 2) (c := 92) (as := [pR (some th), pI (nI w), pI (nI (k - f)), pI (nI (q + M))]) (st := []) dX2_passSledgeWinter_27 lX2_113 okX2_weeksBack vX2_weeksBack s92 (by decide) rfl rfl rfl (Nat.le_of_ble_eq_true rfl) ⟨Nat.le_of_ble_eq_true rfl, Nat.le_of_ble_eq_true rfl⟩ CR.f (c_X2_weeksBack (u := u) (V := EV 0 (lN (a 4))) (ways := 1) (f1.fr.g hG) hth (by omega) (hT.th.fr f1.fr (by omega)) (WA.fr hU f1.fr (by omega)) (hO.fo f1) rL_s (fun s hs => by rw [rL_c (by decide), rWL_s, fil_in (by omega)]) (by omega) (by omega)) (fun g2 e2 => ?_)
  obtain ⟨hA, hB, hC⟩ := e2
  have hG := (f1.tr hC).fr.g hG0
  refine J_iconstN (n := 0) dX2_passSledgeWinter_30 ?_
  refine J_istore (L' := [some (pR (some 92)), some (pR (some th)), some (pI (nI w)), some (pI (nI k)), some (pI (nI q)), some (pI (nI 0))]) dX2_passSledgeWinter_31 (by decide) rfl ?_
  refine J_h (h' := wL g2 93 (fil (fun j => g2.2.1 93 (j + M) - lN (c * M) * (1 * tenL (k - f))) 0 (g2.2.1 93))) fil_h0L ?_
  refine J_for (L := fun i => [some (pR (some 92)), some (pR (some th)), some (pI (nI w)), some (pI (nI k)), some (pI (nI q)), some (pI (nI i))]) (hf := fun i => wL g2 93 (fil (fun j => g2.2.1 93 (j + M) - lN (c * M) * (1 * tenL (k - f))) i (g2.2.1 93))) (e := min q S + 1) ?_ (fun i hi ih => ?_) 0 (by omega)
  · show J _ _ _ _ _ [some (pR (some 92)), some (pR (some th)), some (pI (nI w)), some (pI (nI k)), some (pI (nI q)), some (pI (nI (min q S + 1)))] _ _ (wL g2 93 (fil (fun j => g2.2.1 93 (j + M) - lN (c * M) * (1 * tenL (k - f))) (min q S + 1) (g2.2.1 93)))
    refine J_iload dX2_passSledgeWinter_33 rfl ?_
    refine J_iload dX2_passSledgeWinter_35 rfl ?_
    refine J_icmp_gtN dX2_passSledgeWinter_37 (by omega) (by omega) (fun c1 => ?_) (fun c1 => ?_)
    · refine J_aload_n dX2_passSledgeWinter_90 rfl ?_
      refine J_aload_n dX2_passSledgeWinter_91 rfl ?_
      refine J_iload_n dX2_passSledgeWinter_92 rfl ?_
      refine J_aload_n dX2_passSledgeWinter_93 rfl ?_
      refine J_getI dX2_passSledgeWinter_94 fX2_149 s92 (fun _ => rfl) ?_
      refine J_cvI ((xIL).trans (((congrFun (f1.tr hC).2.1 12).trans k12))) ?_
      refine J_iload dX2_passSledgeWinter_97 rfl ?_
      have f3 : FO h (wL g2 93 (fil (fun j => g2.2.1 93 (j + M) - lN (c * M) * (1 * tenL (k - f))) (min q S + 1) (g2.2.1 93))) := (f1.tr hC).tr (FO.wl (Or.inl rfl))
      refine J_cVV (ci := 2) (c := 92) (as := [pR (some th), pI (nI w), pI (nI f), pI (nI q)]) (st := []) dX2_passSledgeWinter_99 lX2_113 okX2_weeksBack vX2_weeksBack s92 (by decide) rfl rfl rfl (Nat.le_of_ble_eq_true rfl) ⟨Nat.le_of_ble_eq_true rfl, Nat.le_of_ble_eq_true rfl⟩ CR.f (c_X2_weeksBack (u := u) (V := slV (VB rk rl (a 5) u 0 (lN (a 2)) (-lN (a 3)) 0 0 1 (EV 0 (lN (a 4))) (k - f)) S M c (tenL (k - f))) (ways := tenL (k - f)) (f3.fr.g hG0) hth (by omega) (hT.th.fr f3.fr (by omega)) (WA.fr hU f3.fr (by omega)) (hO.fo f3) ((congrFun (rWL_c (by decide)) 11).trans (hB.trans (Int64.one_mul _))) (fun s hs => by rw [rWL_s]; unfold fil slV; rcases Nat.lt_or_ge S s with z | z; (rw [if_neg (by omega), if_neg (by omega), hA s (by omega)]); (rw [if_pos (by omega), if_pos z]; show g2.2.1 93 (s + M) - _ * (1 * _) = _; rw [hA (s + M) (by omega), Int64.one_mul])) (by omega) (by omega)) (fun g4 e4 => ?_)
      obtain ⟨hA4, -, hC4⟩ := e4
      exact J_retV dX2_passSledgeWinter_102 rfl ⟨hA4, FP.of (f3.tr hC4), ((f3.tr hC4).1 94 (by omega)).2⟩
    · refine J_iload dX2_passSledgeWinter_40 rfl ?_
      refine J_aload_n dX2_passSledgeWinter_42 rfl ?_
      refine J_getI dX2_passSledgeWinter_43 fX2_152 s92 (fun _ => rfl) ?_
      refine J_cvI ((xIL).trans (((congrFun (f1.tr hC).2.1 13).trans k13))) ?_
      refine J_icmp_gtN dX2_passSledgeWinter_46 (by omega) (by omega) (fun c2 => ?_) (fun c2 => ?_)
      · refine J_aload_n dX2_passSledgeWinter_90 rfl ?_
        refine J_aload_n dX2_passSledgeWinter_91 rfl ?_
        refine J_iload_n dX2_passSledgeWinter_92 rfl ?_
        refine J_aload_n dX2_passSledgeWinter_93 rfl ?_
        refine J_getI dX2_passSledgeWinter_94 fX2_149 s92 (fun _ => rfl) ?_
        refine J_cvI ((xIL).trans (((congrFun (f1.tr hC).2.1 12).trans k12))) ?_
        refine J_iload dX2_passSledgeWinter_97 rfl ?_
        have f3 : FO h (wL g2 93 (fil (fun j => g2.2.1 93 (j + M) - lN (c * M) * (1 * tenL (k - f))) (min q S + 1) (g2.2.1 93))) := (f1.tr hC).tr (FO.wl (Or.inl rfl))
        refine J_cVV (ci := 2) (c := 92) (as := [pR (some th), pI (nI w), pI (nI f), pI (nI q)]) (st := []) dX2_passSledgeWinter_99 lX2_113 okX2_weeksBack vX2_weeksBack s92 (by decide) rfl rfl rfl (Nat.le_of_ble_eq_true rfl) ⟨Nat.le_of_ble_eq_true rfl, Nat.le_of_ble_eq_true rfl⟩ CR.f (c_X2_weeksBack (u := u) (V := slV (VB rk rl (a 5) u 0 (lN (a 2)) (-lN (a 3)) 0 0 1 (EV 0 (lN (a 4))) (k - f)) S M c (tenL (k - f))) (ways := tenL (k - f)) (f3.fr.g hG0) hth (by omega) (hT.th.fr f3.fr (by omega)) (WA.fr hU f3.fr (by omega)) (hO.fo f3) ((congrFun (rWL_c (by decide)) 11).trans (hB.trans (Int64.one_mul _))) (fun s hs => by rw [rWL_s]; unfold fil slV; rcases Nat.lt_or_ge S s with z | z; (rw [if_neg (by omega), if_neg (by omega), hA s (by omega)]); (rw [if_pos (by omega), if_pos z]; show g2.2.1 93 (s + M) - _ * (1 * _) = _; rw [hA (s + M) (by omega), Int64.one_mul])) (by omega) (by omega)) (fun g4 e4 => ?_)
        obtain ⟨hA4, -, hC4⟩ := e4
        exact J_retV dX2_passSledgeWinter_102 rfl ⟨hA4, FP.of (f3.tr hC4), ((f3.tr hC4).1 94 (by omega)).2⟩
      · exact (show False by omega).elim
  · show J _ _ _ _ _ [some (pR (some 92)), some (pR (some th)), some (pI (nI w)), some (pI (nI k)), some (pI (nI q)), some (pI (nI i))] _ _ (wL g2 93 (fil (fun j => g2.2.1 93 (j + M) - lN (c * M) * (1 * tenL (k - f))) i (g2.2.1 93)))
    refine J_iload dX2_passSledgeWinter_33 rfl ?_
    refine J_iload dX2_passSledgeWinter_35 rfl ?_
    refine J_icmp_gtN dX2_passSledgeWinter_37 (by omega) (by omega) (fun c3 => ?_) (fun c3 => ?_)
    · exact (show False by omega).elim
    · refine J_iload dX2_passSledgeWinter_40 rfl ?_
      refine J_aload_n dX2_passSledgeWinter_42 rfl ?_
      refine J_getI dX2_passSledgeWinter_43 fX2_152 s92 (fun _ => rfl) ?_
      refine J_cvI ((xIL).trans (((congrFun (f1.tr hC).2.1 13).trans k13))) ?_
      refine J_icmp_gtN dX2_passSledgeWinter_46 (by omega) (by omega) (fun c4 => ?_) (fun c4 => ?_)
      · exact (show False by omega).elim
      · refine J_aload_n dX2_passSledgeWinter_49 rfl ?_
        refine J_getR (r := some 93) dX2_passSledgeWinter_50 fX2_11 s92 (fun _ => rfl) ((xRL).trans (g92_0 hG)) ?_
        refine J_iload dX2_passSledgeWinter_53 rfl ?_
        refine J_aload_n dX2_passSledgeWinter_55 rfl ?_
        refine J_getR (r := some 93) dX2_passSledgeWinter_56 fX2_11 s92 (fun _ => rfl) ((xRL).trans (g92_0 hG)) ?_
        refine J_iload dX2_passSledgeWinter_59 rfl ?_
        refine J_aload_n dX2_passSledgeWinter_61 rfl ?_
        refine J_getI dX2_passSledgeWinter_62 fX2_155 s92 (fun _ => rfl) ?_
        refine J_cvI ((xIL).trans (((congrFun (f1.tr hC).2.1 14).trans k14))) ?_
        refine J_iaddN dX2_passSledgeWinter_65 ?_
        refine J_laldN dX2_passSledgeWinter_66 s93 (by decide) (by omega) ?_
        refine J_cvL ((congrFun (rWL_s) (i + M)).trans ((fil_at (by omega)))) ?_
        refine J_aload_n dX2_passSledgeWinter_67 rfl ?_
        refine J_getI dX2_passSledgeWinter_68 fX2_158 s92 (fun _ => rfl) ?_
        refine J_cvI ((xIL).trans (((congrFun (f1.tr hC).2.1 15).trans k15))) ?_
        refine J_aload_n dX2_passSledgeWinter_71 rfl ?_
        refine J_getI dX2_passSledgeWinter_72 fX2_155 s92 (fun _ => rfl) ?_
        refine J_cvI ((xIL).trans (((congrFun (f1.tr hC).2.1 14).trans k14))) ?_
        refine J_imulN dX2_passSledgeWinter_75 ?_
        refine J_i2lN dX2_passSledgeWinter_76 (mul_lt31 1000 1000 (by omega) (by omega) (by decide)) ?_
        refine J_aload_n dX2_passSledgeWinter_77 rfl ?_
        refine J_getL dX2_passSledgeWinter_78 fX2_63 s92 (fun _ => rfl) ?_
        refine J_cvL ((congrFun (rWL_c (by decide)) 11).trans (hB)) ?_
        refine J_lmul dX2_passSledgeWinter_81 ?_
        refine J_lsub dX2_passSledgeWinter_82 ?_
        refine J_lastN dX2_passSledgeWinter_83 s93 (by decide) (by omega) ?_
        refine J_iincN (n := 1) (L' := [some (pR (some 92)), some (pR (some th)), some (pI (nI w)), some (pI (nI k)), some (pI (nI q)), some (pI (nI (i + 1)))]) dX2_passSledgeWinter_84 rfl (by decide) rfl ?_
        refine J_goto dX2_passSledgeWinter_87 ?_
        refine J_h (h' := wL g2 93 (fil (fun j => g2.2.1 93 (j + M) - lN (c * M) * (1 * tenL (k - f))) (i + 1) (g2.2.1 93))) (fil_stL rfl) ?_
        exact ih
theorem c_X2_sledgeScore {h0 : PH} {p th n k q rk rl f S M c : Nat} {a : Nat → Nat} {u : Nat → Nat → Nat} {x : Nat → Int64} (hG0 : GR h0.2.2) (hp : IsPo p) (hth : IsTh th) (hT0 : TA h0 th a rk rl) (hn : h0.1 p 3 = nI n) (bn : n ≤ 4) (hk : h0.1 p 0 = nI k) (bk : k < 50) (hx : ∀ w, w < n → h0.2.1 (p + 1) w = x w) (hU : ∀ w, w < n → WA h0 (th + 2 + w) (u w)) (k12 : h0.1 92 12 = nI f) (k13 : h0.1 92 13 = nI S) (k14 : h0.1 92 14 = nI M) (k15 : h0.1 92 15 = nI c) (bf : f ≤ k) (bS : S < 100) (bM : 1 ≤ M) (bM2 : M ≤ 20) (bc : c < 1000) (bq : q ≤ 40) : CtL mX2_sledgeScore h0 [pR (some 92), pR (some p), pR (some th), pI (nI q)] (fun v h' => v = sgR a rk rl u x f S M c k n q ∧ Fr 92 97 h0 h') := by
  have hl1 := hth.lt
  have hl2 := hp.lt
  have hG := hG0
  refine Ct.of (L := [some (pR (some 92)), some (pR (some p)), some (pR (some th)), some (pI (nI q)), none]) rfl rfl (Nat.le_of_ble_eq_true rfl) rfl ?_
  refine J_aload_n dX2_sledgeScore_0 rfl ?_
  refine J_aload_n dX2_sledgeScore_1 rfl ?_
  refine J_cVV (ci := 2) (c := 92) (as := [pR (some th)]) (st := []) dX2_sledgeScore_2 lX2_128 okX2_valueMoney vX2_valueMoney s92 (by decide) rfl rfl rfl (Nat.le_of_ble_eq_true rfl) ⟨Nat.le_of_ble_eq_true rfl, Nat.le_of_ble_eq_true rfl⟩ CR.f (c_X2_valueMoneyS hG0 hth (hT0.1 2 (by decide)).1 (hT0.1 3 (by decide)).1 (hT0.1 4 (by decide)).1 (hT0.1 2 (by decide)).2 (hT0.1 3 (by decide)).2 (hT0.1 4 (by decide)).2) (fun g1 e1 => ?_)
  obtain ⟨q1, q2, q3, q3b⟩ := e1
  have z12 := (q3b 12 (by decide)).trans k12
  have z13 := (q3b 13 (by decide)).trans k13
  have z14 := (q3b 14 (by decide)).trans k14
  have z15 := (q3b 15 (by decide)).trans k15
  refine J_aload_n dX2_sledgeScore_5 rfl ?_
  refine J_iload_n dX2_sledgeScore_6 rfl ?_
  refine J_cVV (ci := 2) (c := 92) (as := [pI (nI q)]) (st := []) dX2_sledgeScore_7 lX2_116 okX2_clearAny vX2_clearAny s92 (by decide) rfl rfl rfl (Nat.le_of_ble_eq_true rfl) ⟨Nat.le_of_ble_eq_true rfl, Nat.le_of_ble_eq_true rfl⟩ CR.f (c_X2_clearAny (q3.g hG0) (by omega)) (fun g0 e0 => ?_)
  subst e0
  have q5 : Fr 92 97 h0 (wL g1 94 (fil (fun j => 0) (q + 1) (g1.2.1 94))) := (q3.mo (by omega) (by omega) : Fr 92 97 h0 g1).tr (Fr.wL (by omega) (by omega))
  have q6 : FP g1 (wL g1 94 (fil (fun j => 0) (q + 1) (g1.2.1 94))) := FP.any
  refine J_iconstN (n := 0) dX2_sledgeScore_10 ?_
  refine J_istore (L' := [some (pR (some 92)), some (pR (some p)), some (pR (some th)), some (pI (nI q)), some (pI (nI 0))]) dX2_sledgeScore_11 (by decide) rfl ?_
  refine J_forI (α := Unit) (L := fun i aa => [some (pR (some 92)), some (pR (some p)), some (pR (some th)), some (pI (nI q)), some (pI (nI i))]) (fun i aa h => (∀ s, s ≤ q → h.2.1 94 s = sL64 (fun w => x w * sgW a rk rl (u w) f S M c k s) i) ∧ FP g1 h) (e := n) (fun aa h hI => ?_) (fun i aa h hi hI ih => ?_) 0 (()) _ (by omega) (⟨fun s hs => by rw [rWL_s, fil_in (by omega)]; rfl, FP.any⟩)
  · show J _ _ _ _ _ [some (pR (some 92)), some (pR (some p)), some (pR (some th)), some (pI (nI q)), some (pI (nI n))] _ _ h
    obtain ⟨h1, h2⟩ := hI
    have q5 := (q3.mo (by omega) (by omega) : Fr 92 97 h0 g1).tr h2.1
    have hG := q5.g hG0
    refine J_iload dX2_sledgeScore_13 rfl ?_
    refine J_aload_n dX2_sledgeScore_15 rfl ?_
    refine J_getI dX2_sledgeScore_16 fX2_119 hp.s (fun _ => rfl) ?_
    refine J_cvI (((q5.i (by omega)).trans hn)) ?_
    refine J_icmp_geN dX2_sledgeScore_19 (by omega) (by omega) (fun c1 => ?_) (fun c1 => ?_)
    · refine J_aload_n dX2_sledgeScore_52 rfl ?_
      refine J_aload_n dX2_sledgeScore_53 rfl ?_
      refine J_iload_n dX2_sledgeScore_54 rfl ?_
      refine J_aload_n dX2_sledgeScore_55 rfl ?_
      refine J_getI dX2_sledgeScore_56 fX2_131 hp.s (fun _ => rfl) ?_
      refine J_cvI (((q5.i (by omega)).trans hk)) ?_
      refine J_iconstN (n := 1) dX2_sledgeScore_59 ?_
      refine J_iaddN dX2_sledgeScore_60 ?_
      refine J_cNL (as := [pI (nI (k + 1))]) (st := [pI (nI q), pR (some th), pR (some 92)]) dX2_sledgeScore_61 lX2_138 okX9_tenTo sX9_tenTo rfl rfl (Nat.le_of_ble_eq_true rfl) ⟨Nat.le_of_ble_eq_true rfl, Nat.le_of_ble_eq_true rfl⟩ CR.f (c_X9_tenTo (by omega)) (fun v5 g5 e5 => ?_)
      obtain ⟨rfl, e5b⟩ := e5
      rw [e5b]
      refine J_cVV (ci := 2) (c := 92) (as := [pR (some th), pI (nI q), pL (tenL (k + 1))]) (st := []) dX2_sledgeScore_64 lX2_142 okX2_payFor vX2_payFor s92 (by decide) rfl rfl rfl (Nat.le_of_ble_eq_true rfl) ⟨Nat.le_of_ble_eq_true rfl, Nat.le_of_ble_eq_true rfl⟩ CR.f (c_X2_payFor (q5.g hG0) hth ((q5.i (by omega)).trans (hT0.1 1 (by decide)).1) (hT0.1 1 (by decide)).2 (by omega)) (fun g6 e6 => ?_)
      subst e6
      refine J_aload_n dX2_sledgeScore_67 rfl ?_
      refine J_getR (r := some 94) dX2_sledgeScore_68 fX2_15 s92 (fun _ => rfl) ((xRL).trans (g92_1 hG)) ?_
      refine J_iload_n dX2_sledgeScore_71 rfl ?_
      refine J_laldN dX2_sledgeScore_72 s94 (by decide) (by omega) ?_
      refine J_cvL ((congrFun (rWL_s) q).trans ((fil_in (by omega)))) ?_
      exact J_retL dX2_sledgeScore_73 rfl ⟨by rw [h1 q (Nat.le_refl q)]; rfl, q5.tr (Fr.wL (by omega) (by omega))⟩
    · exact (show False by omega).elim
  · show J _ _ _ _ _ [some (pR (some 92)), some (pR (some p)), some (pR (some th)), some (pI (nI q)), some (pI (nI i))] _ _ h
    obtain ⟨h1, h2⟩ := hI
    have q5 := (q3.mo (by omega) (by omega) : Fr 92 97 h0 g1).tr h2.1
    have hG := q5.g hG0
    refine J_iload dX2_sledgeScore_13 rfl ?_
    refine J_aload_n dX2_sledgeScore_15 rfl ?_
    refine J_getI dX2_sledgeScore_16 fX2_119 hp.s (fun _ => rfl) ?_
    refine J_cvI (((q5.i (by omega)).trans hn)) ?_
    refine J_icmp_geN dX2_sledgeScore_19 (by omega) (by omega) (fun c2 => ?_) (fun c2 => ?_)
    · exact (show False by omega).elim
    · refine J_aload_n dX2_sledgeScore_22 rfl ?_
      refine J_aload_n dX2_sledgeScore_23 rfl ?_
      refine J_iload dX2_sledgeScore_24 rfl ?_
      refine J_aload_n dX2_sledgeScore_26 rfl ?_
      refine J_getI dX2_sledgeScore_27 fX2_131 hp.s (fun _ => rfl) ?_
      refine J_cvI (((q5.i (by omega)).trans hk)) ?_
      refine J_iload_n dX2_sledgeScore_30 rfl ?_
      refine J_cVV (ci := 2) (c := 92) (as := [pR (some th), pI (nI i), pI (nI k), pI (nI q)]) (st := []) dX2_sledgeScore_31 lX2_161 okX2_passSledgeWinter vX2_passSledgeWinter s92 (by decide) rfl rfl rfl (Nat.le_of_ble_eq_true rfl) ⟨Nat.le_of_ble_eq_true rfl, Nat.le_of_ble_eq_true rfl⟩ CR.f (c_X2_passSledgeWinter (a := a) (u := u i) (f := f) (S := S) (M := M) (c := c) hG hth (by omega) (hT0.fr q5 (by omega)) ((hU i hi).fr q5 (by omega)) (q1.fp h2) ((h2.2.2.1 10 (by decide)).trans q2) ((congrFun h2.2.1 12).trans z12) ((congrFun h2.2.1 13).trans z13) ((congrFun h2.2.1 14).trans z14) ((congrFun h2.2.1 15).trans z15) bf (by omega) bS bM bM2 bc bq) (fun g4 e4 => ?_)
      obtain ⟨hA, hC, hD⟩ := e4
      have hG := hC.1.g hG
      refine J_aload_n dX2_sledgeScore_34 rfl ?_
      refine J_aload_n dX2_sledgeScore_35 rfl ?_
      refine J_getR (r := some (p + 1)) dX2_sledgeScore_36 fX2_164 hp.s (fun _ => rfl) (hp.e8 hG) ?_
      refine J_iload dX2_sledgeScore_39 rfl ?_
      refine J_laldN dX2_sledgeScore_41 hp.s1 (by decide) (by omega) ?_
      refine J_cvL (((hC.1.l (by omega)).trans ((q5.l (by omega)).trans (hx i hi)))) ?_
      refine J_iload_n dX2_sledgeScore_42 rfl ?_
      refine J_cVV (ci := 2) (c := 92) (as := [pL (x i), pI (nI q)]) (st := []) dX2_sledgeScore_43 lX2_124 okX2_addToAny vX2_addToAny s92 (by decide) rfl rfl rfl (Nat.le_of_ble_eq_true rfl) ⟨Nat.le_of_ble_eq_true rfl, Nat.le_of_ble_eq_true rfl⟩ CR.f (c_X2_addToAny hG (by omega)) (fun g5 e5 => ?_)
      subst e5
      refine J_iincN (n := 1) (L' := [some (pR (some 92)), some (pR (some p)), some (pR (some th)), some (pI (nI q)), some (pI (nI (i + 1)))]) dX2_sledgeScore_46 rfl (by decide) rfl ?_
      refine J_goto dX2_sledgeScore_49 ?_
      refine ih () _ ⟨fun s hs => ?_, h2.tr (hC.tr FP.any)⟩
      rw [rWL_s, fil_in (by omega), hA s hs, hD, h1 s hs]; rfl
theorem c_X2_secondRow {h0 : PH} {p th n k m rk rl b : Nat} {a : Nat → Nat} {u : Nat → Nat → Nat} {x : Nat → Int64} (hG0 : GR h0.2.2) (hp : IsPo p) (hth : IsTh th) (hT0 : TA h0 th a rk rl) (hn : h0.1 p 3 = nI n) (bn : n ≤ 4) (hk : h0.1 p 0 = nI k) (bk : k < 50) (hx : ∀ w, w < n → h0.2.1 (p + 1) w = x w) (hU : ∀ w, w < n → WA h0 (th + 2 + w) (u w)) (bb : b ≤ 10) (bm : m < 61) : CtV mX2_secondRow h0 [pR (some 92), pR (some p), pR (some th), pI (nI b), pI (nI m)] (fun h' => (∀ s, s ≤ m → h'.2.1 94 s = sdR a rk rl u x b k n s) ∧ Fr 92 97 h0 h') := by
  have hl1 := hth.lt
  have hl2 := hp.lt
  have hG := hG0
  refine Ct.of (L := [some (pR (some 92)), some (pR (some p)), some (pR (some th)), some (pI (nI b)), some (pI (nI m)), none, none, none]) rfl rfl (Nat.le_of_ble_eq_true rfl) rfl ?_
  refine J_aload_n dX2_secondRow_0 rfl ?_
  refine J_aload_n dX2_secondRow_1 rfl ?_
  refine J_cVV (ci := 2) (c := 92) (as := [pR (some th)]) (st := []) dX2_secondRow_2 lX2_128 okX2_valueMoney vX2_valueMoney s92 (by decide) rfl rfl rfl (Nat.le_of_ble_eq_true rfl) ⟨Nat.le_of_ble_eq_true rfl, Nat.le_of_ble_eq_true rfl⟩ CR.f (c_X2_valueMoney hG0 hth (hT0.1 2 (by decide)).1 (hT0.1 3 (by decide)).1 (hT0.1 4 (by decide)).1 (hT0.1 2 (by decide)).2 (hT0.1 3 (by decide)).2 (hT0.1 4 (by decide)).2) (fun g1 e1 => ?_)
  obtain ⟨q1, q2, q3⟩ := e1
  refine J_aload_n dX2_secondRow_5 rfl ?_
  refine J_aload_n dX2_secondRow_6 rfl ?_
  refine J_aload_n dX2_secondRow_7 rfl ?_
  refine J_aload_n dX2_secondRow_8 rfl ?_
  refine J_getR (r := some (p + 1)) dX2_secondRow_9 fX2_164 hp.s (fun _ => rfl) ((q3.r).trans (hp.e8 hG)) ?_
  refine J_aload_n dX2_secondRow_12 rfl ?_
  refine J_getI dX2_secondRow_13 fX2_131 hp.s (fun _ => rfl) ?_
  refine J_cvI ((q3.i (by omega)).trans (hk)) ?_
  refine J_iload dX2_secondRow_16 rfl ?_
  refine J_cVV (ci := 2) (c := 92) (as := [pR (some p), pR (some th), pR (some (p + 1)), pI (nI k), pI (nI m)]) (st := []) dX2_secondRow_18 lX2_134 okX2_passAny vX2_passAny s92 (by decide) rfl rfl rfl (Nat.le_of_ble_eq_true rfl) ⟨Nat.le_of_ble_eq_true rfl, Nat.le_of_ble_eq_true rfl⟩ CR.f (c_X2_passAny (rk := rk) (rl := rl) (so := a 5) (u := u) (x := x) (q3.g hG0) hp hth ⟨hp.s1, by omega⟩ ((q3.i (by omega)).trans hn) bn (fun w hw => (q3.l (by omega)).trans (hx w hw)) (hT0.fr q3 (by omega)).th (fun w hw => (hU w hw).fr q3 (by omega)) q1 q2 (by omega) (by omega)) (fun g2 e2 => ?_)
  obtain ⟨q4, q4b⟩ := e2
  have q5 := (q3.mo (by omega) (by omega) : Fr 92 97 h0 g1).tr q4b.1
  have hG := q5.g hG0
  refine J_aload_n dX2_secondRow_21 rfl ?_
  refine J_getI dX2_secondRow_22 fX2_131 hp.s (fun _ => rfl) ?_
  refine J_cvI ((q5.i (by omega)).trans (hk)) ?_
  refine J_iconstN (n := 1) dX2_secondRow_25 ?_
  refine J_iaddN dX2_secondRow_26 ?_
  refine J_cNL (as := [pI (nI (k + 1))]) (st := []) dX2_secondRow_27 lX2_138 okX9_tenTo sX9_tenTo rfl rfl (Nat.le_of_ble_eq_true rfl) ⟨Nat.le_of_ble_eq_true rfl, Nat.le_of_ble_eq_true rfl⟩ CR.f (c_X9_tenTo (by omega)) (fun v5 g5 e5 => ?_)
  obtain ⟨rfl, e5b⟩ := e5
  rw [e5b]
  refine J_lstore (L' := [some (pR (some 92)), some (pR (some p)), some (pR (some th)), some (pI (nI b)), some (pI (nI m)), some (pL (tenL (k + 1))), none, none]) dX2_secondRow_30 (by decide) rfl ?_
  refine J_iconstN (n := 0) dX2_secondRow_32 ?_
  refine J_istore (L' := [some (pR (some 92)), some (pR (some p)), some (pR (some th)), some (pI (nI b)), some (pI (nI m)), some (pL (tenL (k + 1))), none, some (pI (nI 0))]) dX2_secondRow_33 (by decide) rfl ?_
  refine J_h (h' := wL g2 96 (fil (bhV (lN (a 4)) b (tenL (k + 1)) (g2.2.1 94)) 0 (g2.2.1 96))) fil_h0L ?_
  refine J_for (L := fun i => [some (pR (some 92)), some (pR (some p)), some (pR (some th)), some (pI (nI b)), some (pI (nI m)), some (pL (tenL (k + 1))), none, some (pI (nI i))]) (hf := fun i => wL g2 96 (fil (bhV (lN (a 4)) b (tenL (k + 1)) (g2.2.1 94)) i (g2.2.1 96))) (e := m + 1) ?_ (fun i hi ih => ?_) 0 (by omega)
  · show J _ _ _ _ _ [some (pR (some 92)), some (pR (some p)), some (pR (some th)), some (pI (nI b)), some (pI (nI m)), some (pL (tenL (k + 1))), none, some (pI (nI (m + 1)))] _ _ (wL g2 96 (fil (bhV (lN (a 4)) b (tenL (k + 1)) (g2.2.1 94)) (m + 1) (g2.2.1 96)))
    refine J_iload dX2_secondRow_35 rfl ?_
    refine J_iload dX2_secondRow_37 rfl ?_
    refine J_icmp_gtN dX2_secondRow_39 (by omega) (by omega) (fun c1 => ?_) (fun c1 => ?_)
    · refine J_aload_n dX2_secondRow_83 rfl ?_
      refine J_iload dX2_secondRow_84 rfl ?_
      refine J_cVV (ci := 2) (c := 92) (as := [pI (nI m)]) (st := []) dX2_secondRow_86 lX2_116 okX2_clearAny vX2_clearAny s92 (by decide) rfl rfl rfl (Nat.le_of_ble_eq_true rfl) ⟨Nat.le_of_ble_eq_true rfl, Nat.le_of_ble_eq_true rfl⟩ CR.f (c_X2_clearAny hG (by omega)) (fun g0 e0 => ?_)
      subst e0
      have r1 : ∀ s, s ≤ m → (wL g2 96 (fil (bhV (lN (a 4)) b (tenL (k + 1)) (g2.2.1 94)) (m + 1) (g2.2.1 96))).2.1 96 s = bhV (lN (a 4)) b (tenL (k + 1)) (fun s => anyS rk rl (a 5) u 0 (lN (a 2)) (-lN (a 3)) 0 0 (EV 0 (lN (a 4))) x k s n) s := fun s hs => by rw [rWL_s, fil_in (by omega)]; unfold bhV; rw [q4 s hs]
      have r2 : Fr 92 97 h0 (wL g2 96 (fil (bhV (lN (a 4)) b (tenL (k + 1)) (g2.2.1 94)) (m + 1) (g2.2.1 96))) := q5.tr (Fr.wL (by omega) (by omega))
      have r3 : (wL g2 96 (fil (bhV (lN (a 4)) b (tenL (k + 1)) (g2.2.1 94)) (m + 1) (g2.2.1 96))).1 92 = g2.1 92 := rfl
      have r4 : ∀ j, j ≠ 11 → (wL g2 96 (fil (bhV (lN (a 4)) b (tenL (k + 1)) (g2.2.1 94)) (m + 1) (g2.2.1 96))).2.1 92 j = g2.2.1 92 j := fun j _ => congrFun (rWL_c (by decide)) j
      generalize wL g2 96 (fil (bhV (lN (a 4)) b (tenL (k + 1)) (g2.2.1 94)) (m + 1) (g2.2.1 96)) = g3 at r1 r2 r3 r4 ⊢
      have hO3 : OL g3 0 (lN (a 2)) (-lN (a 3)) 0 0 := ⟨(congrFun r3 5).trans (q1.fp q4b).1, (r4 6 (by decide)).trans (q1.fp q4b).2.1, (r4 7 (by decide)).trans (q1.fp q4b).2.2.1, (r4 8 (by decide)).trans (q1.fp q4b).2.2.2.1, (r4 9 (by decide)).trans (q1.fp q4b).2.2.2.2.1, by decide⟩
      refine J_iconstN (n := 0) dX2_secondRow_89 ?_
      refine J_istore (L' := [some (pR (some 92)), some (pR (some p)), some (pR (some th)), some (pI (nI b)), some (pI (nI m)), some (pL (tenL (k + 1))), none, some (pI (nI 0))]) dX2_secondRow_90 (by decide) rfl ?_
      refine J_forI (α := Unit) (L := fun i aa => [some (pR (some 92)), some (pR (some p)), some (pR (some th)), some (pI (nI b)), some (pI (nI m)), some (pL (tenL (k + 1))), none, some (pI (nI i))]) (fun i aa h => (∀ s, s ≤ m → h.2.1 94 s = sL64 (fun w => x w * VB rk rl (a 5) (u w) 0 (lN (a 2)) (-lN (a 3)) 0 0 (tenL (k + 1) * 10) (bhV (lN (a 4)) b (tenL (k + 1)) (fun s => anyS rk rl (a 5) u 0 (lN (a 2)) (-lN (a 3)) 0 0 (EV 0 (lN (a 4))) x k s n)) k s) i) ∧ FP g3 h) (e := n) (fun aa h hI => ?_) (fun i aa h hi hI ih => ?_) 0 (()) _ (by omega) (⟨fun s hs => by rw [rWL_s, fil_in (by omega)]; rfl, FP.any⟩)
      · show J _ _ _ _ _ [some (pR (some 92)), some (pR (some p)), some (pR (some th)), some (pI (nI b)), some (pI (nI m)), some (pL (tenL (k + 1))), none, some (pI (nI n))] _ _ h
        obtain ⟨h1, h2⟩ := hI
        have q5 := r2.tr h2.1
        have hG := q5.g hG0
        have r5 : ∀ s, s ≤ m → h.2.1 96 s = bhV (lN (a 4)) b (tenL (k + 1)) (fun s => anyS rk rl (a 5) u 0 (lN (a 2)) (-lN (a 3)) 0 0 (EV 0 (lN (a 4))) x k s n) s := fun s hs => by rw [h2.2.2.2]; exact r1 s hs
        refine J_iload dX2_secondRow_92 rfl ?_
        refine J_aload_n dX2_secondRow_94 rfl ?_
        refine J_getI dX2_secondRow_95 fX2_119 hp.s (fun _ => rfl) ?_
        refine J_cvI (((q5.i (by omega)).trans hn)) ?_
        refine J_icmp_geN dX2_secondRow_98 (by omega) (by omega) (fun c2 => ?_) (fun c2 => ?_)
        · refine J_aload_n dX2_secondRow_160 rfl ?_
          refine J_aload_n dX2_secondRow_161 rfl ?_
          refine J_iload dX2_secondRow_162 rfl ?_
          refine J_iconstN (n := 2) dX2_secondRow_164 ?_
          refine J_aload_n dX2_secondRow_165 rfl ?_
          refine J_getI dX2_secondRow_166 fX2_131 hp.s (fun _ => rfl) ?_
          refine J_cvI (((q5.i (by omega)).trans hk)) ?_
          refine J_imulN dX2_secondRow_169 ?_
          refine J_iconstN (n := 3) dX2_secondRow_170 ?_
          refine J_iaddN dX2_secondRow_171 ?_
          refine J_cNL (as := [pI (nI (2 * k + 3))]) (st := [pI (nI m), pR (some th), pR (some 92)]) dX2_secondRow_172 lX2_138 okX9_tenTo sX9_tenTo rfl rfl (Nat.le_of_ble_eq_true rfl) ⟨Nat.le_of_ble_eq_true rfl, Nat.le_of_ble_eq_true rfl⟩ CR.f (c_X9_tenTo (by omega)) (fun v5 g5 e5 => ?_)
          obtain ⟨rfl, e5b⟩ := e5
          rw [e5b]
          refine J_cVV (ci := 2) (c := 92) (as := [pR (some th), pI (nI m), pL (tenL (2 * k + 3))]) (st := []) dX2_secondRow_175 lX2_142 okX2_payFor vX2_payFor s92 (by decide) rfl rfl rfl (Nat.le_of_ble_eq_true rfl) ⟨Nat.le_of_ble_eq_true rfl, Nat.le_of_ble_eq_true rfl⟩ CR.f (c_X2_payFor hG hth ((q5.i (by omega)).trans (hT0.1 1 (by decide)).1) (hT0.1 1 (by decide)).2 (by omega)) (fun g6 e6 => ?_)
          subst e6
          exact J_retV dX2_secondRow_178 rfl ⟨fun s hs => by rw [rWL_s, fil_in (by omega), h1 s hs]; rfl, q5.tr (Fr.wL (by omega) (by omega))⟩
        · exact (show False by omega).elim
      · show J _ _ _ _ _ [some (pR (some 92)), some (pR (some p)), some (pR (some th)), some (pI (nI b)), some (pI (nI m)), some (pL (tenL (k + 1))), none, some (pI (nI i))] _ _ h
        obtain ⟨h1, h2⟩ := hI
        have q5 := r2.tr h2.1
        have hG := q5.g hG0
        have r5 : ∀ s, s ≤ m → h.2.1 96 s = bhV (lN (a 4)) b (tenL (k + 1)) (fun s => anyS rk rl (a 5) u 0 (lN (a 2)) (-lN (a 3)) 0 0 (EV 0 (lN (a 4))) x k s n) s := fun s hs => by rw [h2.2.2.2]; exact r1 s hs
        refine J_iload dX2_secondRow_92 rfl ?_
        refine J_aload_n dX2_secondRow_94 rfl ?_
        refine J_getI dX2_secondRow_95 fX2_119 hp.s (fun _ => rfl) ?_
        refine J_cvI (((q5.i (by omega)).trans hn)) ?_
        refine J_icmp_geN dX2_secondRow_98 (by omega) (by omega) (fun c3 => ?_) (fun c3 => ?_)
        · exact (show False by omega).elim
        · refine J_aload_n dX2_secondRow_101 rfl ?_
          refine J_getR (r := some 96) dX2_secondRow_102 fX2_21 s92 (fun _ => rfl) (g92_3 hG) ?_
          refine J_iconstN (n := 0) dX2_secondRow_105 ?_
          refine J_aload_n dX2_secondRow_106 rfl ?_
          refine J_getR (r := some 93) dX2_secondRow_107 fX2_11 s92 (fun _ => rfl) (g92_0 hG) ?_
          refine J_iconstN (n := 0) dX2_secondRow_110 ?_
          refine J_iload dX2_secondRow_111 rfl ?_
          refine J_iconstN (n := 1) dX2_secondRow_113 ?_
          refine J_iaddN dX2_secondRow_114 ?_
          refine J_cpyLN dX2_secondRow_115 lX2_74 s96 s93 (by omega) (by omega) (by omega) (by omega) (by omega) (by decide) (Nat.le_of_ble_eq_true rfl) ?_
          refine J_aload_n dX2_secondRow_118 rfl ?_
          refine J_lload dX2_secondRow_119 rfl ?_
          refine J_ldc2 dX2_secondRow_121 kX2_80 ?_
          refine J_lmul dX2_secondRow_124 ?_
          refine J_putL dX2_secondRow_125 fX2_63 s92 rfl rfl ?_
          refine J_aload_n dX2_secondRow_128 rfl ?_
          refine J_aload_n dX2_secondRow_129 rfl ?_
          refine J_iload dX2_secondRow_130 rfl ?_
          refine J_aload_n dX2_secondRow_132 rfl ?_
          refine J_getI dX2_secondRow_133 fX2_131 hp.s (fun _ => rfl) ?_
          refine J_cvI ((xIL).trans ((xIL).trans (((q5.i (by omega)).trans hk)))) ?_
          refine J_iload dX2_secondRow_136 rfl ?_
          have f1 : FO h (sL (wL h 93 (va_cpy (h.2.1 96) (h.2.1 93) 0 0 (m + 1))) 92 11 (tenL (k + 1) * 10)) := (FO.wl (Or.inl rfl)).tr FO.ways
          refine J_cVV (ci := 2) (c := 92) (as := [pR (some th), pI (nI i), pI (nI k), pI (nI m)]) (st := []) dX2_secondRow_138 lX2_113 okX2_weeksBack vX2_weeksBack s92 (by decide) rfl rfl rfl (Nat.le_of_ble_eq_true rfl) ⟨Nat.le_of_ble_eq_true rfl, Nat.le_of_ble_eq_true rfl⟩ CR.f (c_X2_weeksBack (u := u i) (V := bhV (lN (a 4)) b (tenL (k + 1)) (fun s => anyS rk rl (a 5) u 0 (lN (a 2)) (-lN (a 3)) 0 0 (EV 0 (lN (a 4))) x k s n)) (ways := tenL (k + 1) * 10) (f1.fr.g hG) hth (by omega) ((hT0.fr q5 (by omega)).th.fr f1.fr (by omega)) (WA.fr ((hU i hi).fr q5 (by omega)) f1.fr (by omega)) ((hO3.fp h2).fo f1) rL_s (fun s hs => by rw [rL_c (by decide), rWL_s, pk_cpy_in (by omega) (by omega)]; simpa using r5 s hs) (by omega) (by omega)) (fun g7 e7 => ?_)
          obtain ⟨hA, hB, hC⟩ := e7
          have hG := (f1.tr hC).fr.g hG
          refine J_aload_n dX2_secondRow_141 rfl ?_
          refine J_aload_n dX2_secondRow_142 rfl ?_
          refine J_getR (r := some (p + 1)) dX2_secondRow_143 fX2_164 hp.s (fun _ => rfl) (hp.e8 hG) ?_
          refine J_iload dX2_secondRow_146 rfl ?_
          refine J_laldN dX2_secondRow_148 hp.s1 (by decide) (by omega) ?_
          refine J_cvL (((hC.fr.l (by omega)).trans ((f1.fr.l (by omega)).trans ((q5.l (by omega)).trans (hx i hi))))) ?_
          refine J_iload dX2_secondRow_149 rfl ?_
          refine J_cVV (ci := 2) (c := 92) (as := [pL (x i), pI (nI m)]) (st := []) dX2_secondRow_151 lX2_124 okX2_addToAny vX2_addToAny s92 (by decide) rfl rfl rfl (Nat.le_of_ble_eq_true rfl) ⟨Nat.le_of_ble_eq_true rfl, Nat.le_of_ble_eq_true rfl⟩ CR.f (c_X2_addToAny hG (by omega)) (fun g5 e5 => ?_)
          subst e5
          refine J_iincN (n := 1) (L' := [some (pR (some 92)), some (pR (some p)), some (pR (some th)), some (pI (nI b)), some (pI (nI m)), some (pL (tenL (k + 1))), none, some (pI (nI (i + 1)))]) dX2_secondRow_154 rfl (by decide) rfl ?_
          refine J_goto dX2_secondRow_157 ?_
          refine ih () _ ⟨fun s hs => ?_, h2.tr ((FP.of (f1.tr hC)).tr FP.any)⟩
          rw [rWL_s, fil_in (by omega), hA s hs, (hC.1 94 (by omega)).2, (f1.1 94 (by omega)).2, h1 s hs]; rfl
    · exact (show False by omega).elim
  · show J _ _ _ _ _ [some (pR (some 92)), some (pR (some p)), some (pR (some th)), some (pI (nI b)), some (pI (nI m)), some (pL (tenL (k + 1))), none, some (pI (nI i))] _ _ (wL g2 96 (fil (bhV (lN (a 4)) b (tenL (k + 1)) (g2.2.1 94)) i (g2.2.1 96)))
    refine J_iload dX2_secondRow_35 rfl ?_
    refine J_iload dX2_secondRow_37 rfl ?_
    refine J_icmp_gtN dX2_secondRow_39 (by omega) (by omega) (fun c4 => ?_) (fun c4 => ?_)
    · exact (show False by omega).elim
    · refine J_aload_n dX2_secondRow_42 rfl ?_
      refine J_getR (r := some 96) dX2_secondRow_43 fX2_21 s92 (fun _ => rfl) ((xRL).trans (g92_3 hG)) ?_
      refine J_iload dX2_secondRow_46 rfl ?_
      refine J_bipush (x := nI 10) dX2_secondRow_48 (by decide) ?_
      refine J_iload_n dX2_secondRow_50 rfl ?_
      refine J_isubN dX2_secondRow_51 (by omega) ?_
      refine J_i2lN dX2_secondRow_52 (by omega) ?_
      refine J_aload_n dX2_secondRow_53 rfl ?_
      refine J_getL dX2_secondRow_54 fX2_48 s92 (fun _ => rfl) ?_
      refine J_cvL ((congrFun (rWL_c (by decide)) 10).trans ((q4b.2.2.1 10 (by decide)).trans q2)) ?_
      refine J_lmul dX2_secondRow_57 ?_
      refine J_iload dX2_secondRow_58 rfl ?_
      refine J_i2lN dX2_secondRow_60 (by omega) ?_
      refine J_lmul dX2_secondRow_61 ?_
      refine J_lload dX2_secondRow_62 rfl ?_
      refine J_lmul dX2_secondRow_64 ?_
      refine J_iload_n dX2_secondRow_65 rfl ?_
      refine J_i2lN dX2_secondRow_66 (by omega) ?_
      refine J_aload_n dX2_secondRow_67 rfl ?_
      refine J_getR (r := some 94) dX2_secondRow_68 fX2_15 s92 (fun _ => rfl) ((xRL).trans (g92_1 hG)) ?_
      refine J_iload dX2_secondRow_71 rfl ?_
      refine J_laldN dX2_secondRow_73 s94 (by decide) (by omega) ?_
      refine J_cvL (y := g2.2.1 94 i) ((congrFun (rWL_c (by decide)) i)) ?_
      refine J_lmul dX2_secondRow_74 ?_
      refine J_ladd dX2_secondRow_75 ?_
      refine J_lastN dX2_secondRow_76 s96 (by decide) (by omega) ?_
      refine J_iincN (n := 1) (L' := [some (pR (some 92)), some (pR (some p)), some (pR (some th)), some (pI (nI b)), some (pI (nI m)), some (pL (tenL (k + 1))), none, some (pI (nI (i + 1)))]) dX2_secondRow_77 rfl (by decide) rfl ?_
      refine J_goto dX2_secondRow_80 ?_
      refine J_h (h' := wL g2 96 (fil (bhV (lN (a 4)) b (tenL (k + 1)) (g2.2.1 94)) (i + 1) (g2.2.1 96))) (fil_stL rfl) ?_
      exact ih
