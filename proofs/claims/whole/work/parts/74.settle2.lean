/-! ===== settled clauses: methods of the class ===== -/
def Un (th : Nat) (h h' : PH) : Prop := (∀ c k, c ≠ th → (c < th + 2 ∨ th + 6 < c) → h'.1 c k = h.1 c k) ∧ h'.2 = h.2 ∧ h'.1 th 6 = -1 ∧ h'.1 th 8 = nI 0 ∧ h'.1 th 9 = nI 0 ∧ (∀ w, w < 4 → h'.1 (th + 6) w = nI 0) ∧ ∀ w, w < 4 → ∀ n, n < 5 → h'.1 (th + 2 + w) n = nI (if n = 0 then 10 else 0)
def Uq (th : Nat) (h h' : PH) (i j m : Nat) : Prop := ((∀ c k, c ≠ th → (c < th + 2 ∨ th + 6 < c) → h'.1 c k = h.1 c k) ∧ h'.2 = h.2 ∧ h'.1 th 6 = -1 ∧ h'.1 th 8 = nI 0 ∧ h'.1 th 9 = nI 0) ∧ (∀ w, w < m → w < 4 → h'.1 (th + 6) w = nI 0) ∧ ∀ w n, w < 4 → n < 5 → (w < i ∨ (w = i ∧ n < j)) → h'.1 (th + 2 + w) n = nI (if n = 0 then 10 else 0)
theorem Uq.g {th i j m : Nat} {h h' : PH} (a : Uq th h h' i j m) (hG : GR h.2.2) : GR h'.2.2 := by rw [a.1.2.1]; exact hG
theorem Uq.t {th i j m : Nat} {h h' : PH} {x : Int32} (a : Uq th h h' i j m) (hm : m < 4) (hx : x = nI 0) : Uq th h (sI h' (th + 6) m x) i j (m + 1) := by
  obtain ⟨⟨a1, a2, a3, a4, a5⟩, a6, a7⟩ := a
  refine ⟨⟨fun c k z1 z2 => (rI_c (by omega)).trans (a1 c k z1 z2), a2, (rI_c (by omega)).trans a3, (rI_c (by omega)).trans a4, (rI_c (by omega)).trans a5⟩, fun w hw h4 => ?_, fun w n hw hn z => (rI_c (by omega)).trans (a7 w n hw hn z)⟩
  by_cases q : w = m
  · rw [q]
    exact rI_s.trans hx
  · exact (rI_k q).trans (a6 w (by omega) h4)
theorem Uq.w {th i j m : Nat} {h h' : PH} {x : Int32} (a : Uq th h h' i j m) (hi : i < 4) (hj : j < 5) (hx : x = nI (if j = 0 then 10 else 0)) : Uq th h (sI h' (th + 2 + i) j x) i (j + 1) m := by
  obtain ⟨⟨a1, a2, a3, a4, a5⟩, a6, a7⟩ := a
  refine ⟨⟨fun c k z1 z2 => (rI_c (by omega)).trans (a1 c k z1 z2), a2, (rI_c (by omega)).trans a3, (rI_c (by omega)).trans a4, (rI_c (by omega)).trans a5⟩, fun w hw h4 => (rI_c (by omega)).trans (a6 w hw h4), fun w n hw hn z => ?_⟩
  by_cases q : w = i
  · rw [q]
    by_cases p : n = j
    · rw [p]
      exact rI_s.trans hx
    · exact (rI_k p).trans (a7 i n hi hn (Or.inr ⟨rfl, by omega⟩))
  · exact (rI_c (by omega)).trans (a7 w n hw hn (by omega))
theorem Uq.n {th i m : Nat} {h h' : PH} (a : Uq th h h' i 5 m) : Uq th h h' (i + 1) 0 m := ⟨a.1, a.2.1, fun w n hw hn z => a.2.2 w n hw hn (by omega)⟩
theorem c_X7_setUntold {h : PH} {th : Nat} (hG : GR h.2.2) (hth : IsTh th) : CtV mX7_setUntold h [pR (some th)] (fun h' => Un th h h') := by
  have hG0 := hG
  refine Ct.of (L := [some (pR (some th)), none, none]) rfl rfl (Nat.le_of_ble_eq_true rfl) rfl ?_
  refine J_aload_n dX7_setUntold_0 rfl ?_
  refine J_iconst (x := -1) dX7_setUntold_1 (by decide) ?_
  refine J_putI dX7_setUntold_2 fX7_27 hth.s rfl (vp_nar_int _) rfl (fun _ _ => rfl) ?_
  refine J_aload_n dX7_setUntold_5 rfl ?_
  refine J_iconstN (n := 0) dX7_setUntold_6 ?_
  refine J_putI dX7_setUntold_7 fX7_30 hth.s rfl (vp_nar_int _) rfl (fun _ _ => rfl) ?_
  refine J_aload_n dX7_setUntold_10 rfl ?_
  refine J_iconstN (n := 0) dX7_setUntold_11 ?_
  refine J_iconstN (n := 0) dX7_setUntold_12 ?_
  refine J_cVV (ci := 7) (c := th) (as := [pI (nI 0), pI (nI 0)]) (st := []) dX7_setUntold_13 lX7_33 okX7_setRule vX7_setRule hth.s (by decide) rfl rfl rfl (Nat.le_of_ble_eq_true rfl) ⟨Nat.le_of_ble_eq_true rfl, Nat.le_of_ble_eq_true rfl⟩ CR.f (c_X7_setRule hth) (fun g0 e0 => ?_)
  rw [e0]
  refine J_iconstN (n := 0) dX7_setUntold_16 ?_
  refine J_istore_n (L' := [some (pR (some th)), some (pI (nI 0)), none]) dX7_setUntold_17 (by decide) rfl ?_
  refine J_L (L' := [some (pR (some th)), some (pI (nI 0)), none]) rfl ?_
  refine J_forI (α := Unit) (L := fun i1 aa1 => [some (pR (some th)), some (pI (nI i1)), none]) (fun i1 aa1 h1 => Uq th h h1 i1 0 i1) (e := 4) (fun aa1 h1 hI1 => ?_) (fun i1 aa1 h1 hi1 hI1 ih1 => ?_) 0 (()) _ (by omega) (⟨⟨fun c k z1 z2 => (rI_c (by omega)).trans ((rI_c (by omega)).trans ((rI_c (by omega)).trans ((rI_c (by omega))))), rfl, ((rI_k (by decide)).trans ((rI_k (by decide)).trans ((rI_k (by decide)).trans (rI_s)))), ((rI_k (by decide)).trans (rI_s)), (rI_s)⟩, fun w z => absurd z (Nat.not_lt_zero w), fun w n _ _ z => absurd z (by omega)⟩)
  · show J _ _ _ _ _ [some (pR (some th)), some (pI (nI 4)), none] _ _ h1
    refine J_iload_n dX7_setUntold_18 rfl ?_
    refine J_iconstN (n := 4) dX7_setUntold_19 ?_
    refine J_icmp_geN dX7_setUntold_20 (by decide) (by decide) (fun c0 => ?_) (fun c0 => absurd c0 (by decide))
    exact J_retV dX7_setUntold_68 rfl ⟨hI1.1.1, hI1.1.2.1, hI1.1.2.2.1, hI1.1.2.2.2.1, hI1.1.2.2.2.2, fun w hw => hI1.2.1 w (by omega) hw, fun w hw n hn => hI1.2.2 w n hw hn (Or.inl (by omega))⟩
  · show J _ _ _ _ _ [some (pR (some th)), some (pI (nI i1)), none] _ _ h1
    have hG := hI1.g hG0
    refine J_iload_n dX7_setUntold_18 rfl ?_
    refine J_iconstN (n := 4) dX7_setUntold_19 ?_
    refine J_icmp_geN dX7_setUntold_20 (by omega) (by omega) (fun c1 => ?_) (fun c1 => ?_)
    · exact (show False by omega).elim
    · refine J_aload_n dX7_setUntold_23 rfl ?_
      refine J_getR (r := some (th + 6)) dX7_setUntold_24 fX7_16 hth.s (fun _ => rfl) (hth.e11 hG) ?_
      refine J_iload_n dX7_setUntold_27 rfl ?_
      refine J_iconstN (n := 0) dX7_setUntold_28 ?_
      refine J_zastN dX7_setUntold_29 hth.s6 (by decide) (by omega) ?_
      refine J_aload_n dX7_setUntold_30 rfl ?_
      refine J_getR (r := some (th + 1)) dX7_setUntold_31 fX7_11 hth.s (fun _ => rfl) ((xRI).trans (hth.e10 hG)) ?_
      refine J_iload_n dX7_setUntold_34 rfl ?_
      refine J_aald7N (r := some (th + 2 + i1)) dX7_setUntold_35 hth.s1 (by decide) (by omega) (hth.ew hG (by omega)) ?_
      refine J_iconstN (n := 0) dX7_setUntold_36 ?_
      refine J_bipush (x := nI 10) dX7_setUntold_37 (by decide) ?_
      refine J_iastN dX7_setUntold_39 (hth.sw (by omega)) (by decide) (by omega) ?_
      refine J_iconstN (n := 1) dX7_setUntold_40 ?_
      refine J_istore_n (L' := [some (pR (some th)), some (pI (nI i1)), some (pI (nI 1))]) dX7_setUntold_41 (by decide) rfl ?_
      refine J_iload_n dX7_setUntold_42 rfl ?_
      refine J_iconstN (n := 5) dX7_setUntold_43 ?_
      refine J_icmp_geN dX7_setUntold_44 (by decide) (by decide) (fun c0 => absurd c0 (by decide)) (fun c0 => ?_)
      refine J_aload_n dX7_setUntold_47 rfl ?_
      refine J_getR (r := some (th + 1)) dX7_setUntold_48 fX7_11 hth.s (fun _ => rfl) ((xRI).trans ((xRI).trans (hth.e10 hG))) ?_
      refine J_iload_n dX7_setUntold_51 rfl ?_
      refine J_aald7N (r := some (th + 2 + i1)) dX7_setUntold_52 hth.s1 (by decide) (by omega) (hth.ew hG (by omega)) ?_
      refine J_iload_n dX7_setUntold_53 rfl ?_
      refine J_iconstN (n := 0) dX7_setUntold_54 ?_
      refine J_iastN dX7_setUntold_55 (hth.sw (by omega)) (by decide) (by omega) ?_
      refine J_iinc (y := nI 2) (L' := [some (pR (some th)), some (pI (nI i1)), some (pI (nI 2))]) dX7_setUntold_56 rfl (by decide) (by decide) rfl ?_
      refine J_goto dX7_setUntold_59 ?_
      refine J_iload_n dX7_setUntold_42 rfl ?_
      refine J_iconstN (n := 5) dX7_setUntold_43 ?_
      refine J_icmp_geN dX7_setUntold_44 (by decide) (by decide) (fun c0 => absurd c0 (by decide)) (fun c0 => ?_)
      refine J_aload_n dX7_setUntold_47 rfl ?_
      refine J_getR (r := some (th + 1)) dX7_setUntold_48 fX7_11 hth.s (fun _ => rfl) ((xRI).trans ((xRI).trans ((xRI).trans (hth.e10 hG)))) ?_
      refine J_iload_n dX7_setUntold_51 rfl ?_
      refine J_aald7N (r := some (th + 2 + i1)) dX7_setUntold_52 hth.s1 (by decide) (by omega) (hth.ew hG (by omega)) ?_
      refine J_iload_n dX7_setUntold_53 rfl ?_
      refine J_iconstN (n := 0) dX7_setUntold_54 ?_
      refine J_iastN dX7_setUntold_55 (hth.sw (by omega)) (by decide) (by omega) ?_
      refine J_iinc (y := nI 3) (L' := [some (pR (some th)), some (pI (nI i1)), some (pI (nI 3))]) dX7_setUntold_56 rfl (by decide) (by decide) rfl ?_
      refine J_goto dX7_setUntold_59 ?_
      refine J_iload_n dX7_setUntold_42 rfl ?_
      refine J_iconstN (n := 5) dX7_setUntold_43 ?_
      refine J_icmp_geN dX7_setUntold_44 (by decide) (by decide) (fun c0 => absurd c0 (by decide)) (fun c0 => ?_)
      refine J_aload_n dX7_setUntold_47 rfl ?_
      refine J_getR (r := some (th + 1)) dX7_setUntold_48 fX7_11 hth.s (fun _ => rfl) ((xRI).trans ((xRI).trans ((xRI).trans ((xRI).trans (hth.e10 hG))))) ?_
      refine J_iload_n dX7_setUntold_51 rfl ?_
      refine J_aald7N (r := some (th + 2 + i1)) dX7_setUntold_52 hth.s1 (by decide) (by omega) (hth.ew hG (by omega)) ?_
      refine J_iload_n dX7_setUntold_53 rfl ?_
      refine J_iconstN (n := 0) dX7_setUntold_54 ?_
      refine J_iastN dX7_setUntold_55 (hth.sw (by omega)) (by decide) (by omega) ?_
      refine J_iinc (y := nI 4) (L' := [some (pR (some th)), some (pI (nI i1)), some (pI (nI 4))]) dX7_setUntold_56 rfl (by decide) (by decide) rfl ?_
      refine J_goto dX7_setUntold_59 ?_
      refine J_iload_n dX7_setUntold_42 rfl ?_
      refine J_iconstN (n := 5) dX7_setUntold_43 ?_
      refine J_icmp_geN dX7_setUntold_44 (by decide) (by decide) (fun c0 => absurd c0 (by decide)) (fun c0 => ?_)
      refine J_aload_n dX7_setUntold_47 rfl ?_
      refine J_getR (r := some (th + 1)) dX7_setUntold_48 fX7_11 hth.s (fun _ => rfl) ((xRI).trans ((xRI).trans ((xRI).trans ((xRI).trans ((xRI).trans (hth.e10 hG)))))) ?_
      refine J_iload_n dX7_setUntold_51 rfl ?_
      refine J_aald7N (r := some (th + 2 + i1)) dX7_setUntold_52 hth.s1 (by decide) (by omega) (hth.ew hG (by omega)) ?_
      refine J_iload_n dX7_setUntold_53 rfl ?_
      refine J_iconstN (n := 0) dX7_setUntold_54 ?_
      refine J_iastN dX7_setUntold_55 (hth.sw (by omega)) (by decide) (by omega) ?_
      refine J_iinc (y := nI 5) (L' := [some (pR (some th)), some (pI (nI i1)), some (pI (nI 5))]) dX7_setUntold_56 rfl (by decide) (by decide) rfl ?_
      refine J_goto dX7_setUntold_59 ?_
      refine J_iload_n dX7_setUntold_42 rfl ?_
      refine J_iconstN (n := 5) dX7_setUntold_43 ?_
      refine J_icmp_geN dX7_setUntold_44 (by decide) (by decide) (fun c0 => ?_) (fun c0 => absurd c0 (by decide))
      refine J_iincN (n := 1) (L' := [some (pR (some th)), some (pI (nI (i1 + 1))), some (pI (nI 5))]) dX7_setUntold_62 rfl (by decide) rfl ?_
      refine J_goto dX7_setUntold_65 ?_
      refine J_drop (L' := [some (pR (some th)), some (pI (nI (i1 + 1))), none]) 2 rfl ?_
      exact ih1 () _ ((((((hI1.t (by omega) (by decide)).w (by omega) (by decide) rfl).w (by omega) (by decide) rfl).w (by omega) (by decide) rfl).w (by omega) (by decide) rfl).w (by omega) (by decide) rfl).n
theorem c_X5_settleWinter {h : PH} {T : Nat → Int32} {d b : Nat} {S : PS} {num : Nat → Nat} (hG : GR h.2.2) (hS : Rp h d T S) (hO : OkS S b) (hm : num 0 = S.1 0 2 0) (hm4 : S.1 0 2 0 < 4) (nm : NmX h T (2 * 6 + cntP S.1 2) (S.2.1 2 (cntP S.1 2))) (hN : ∀ i, i < 5 → h.1 89 i = nI (num i)) (hB : ∀ i, i < 5 → num i ≤ 500) : CtV mX5_settleWinter h [pR (some 88)] (fun h' => Rp h' d T (setS S 2 num) ∧ Rs d h h') := by
  have hpb := hS.1.1.b
  have hb1 := hB 1 (by decide)
  refine Ct.of (L := [some (pR (some 88)), none, none]) rfl rfl (Nat.le_of_ble_eq_true rfl) rfl ?_
  refine J_aload_n dX5_settleWinter_0 rfl ?_
  refine J_getR (r := some 89) dX5_settleWinter_1 fX5_18 s88 (fun _ => rfl) (g88_11 hG) ?_
  refine J_iconstN (n := 0) dX5_settleWinter_4 ?_
  refine J_ialdN dX5_settleWinter_5 s89 (by decide) (by omega) ?_
  refine J_cvI ((hN _ (by omega))) ?_
  refine J_istore_n (L' := [some (pR (some 88)), some (pI (nI (num 0))), none]) dX5_settleWinter_6 (by decide) rfl ?_
  refine J_aload_n dX5_settleWinter_7 rfl ?_
  refine J_getR (r := some d) dX5_settleWinter_8 fX5_35 s88 (fun _ => rfl) (hS.1.2) ?_
  refine J_getR (r := some (d + 1)) dX5_settleWinter_11 fX5_246 hS.1.1.s (fun _ => rfl) (hS.1.1.e8 hG) ?_
  refine J_iload_n dX5_settleWinter_14 rfl ?_
  refine J_aload_n dX5_settleWinter_15 rfl ?_
  refine J_getR (r := some 89) dX5_settleWinter_16 fX5_18 s88 (fun _ => rfl) (g88_11 hG) ?_
  refine J_iconstN (n := 1) dX5_settleWinter_19 ?_
  refine J_ialdN dX5_settleWinter_20 s89 (by decide) (by omega) ?_
  refine J_cvI ((hN _ (by omega))) ?_
  refine J_i2lN dX5_settleWinter_21 (by omega) ?_
  refine J_lastN dX5_settleWinter_22 hS.1.1.s1 (by decide) (by omega) ?_
  refine J_iconstN (n := 0) dX5_settleWinter_23 ?_
  refine J_istore_n (L' := [some (pR (some 88)), some (pI (nI (num 0))), some (pI (nI 0))]) dX5_settleWinter_24 (by decide) rfl ?_
  refine J_iload_n dX5_settleWinter_25 rfl ?_
  refine J_iconstN (n := 3) dX5_settleWinter_26 ?_
  refine J_icmp_geN dX5_settleWinter_27 (by decide) (by decide) (fun c0 => absurd c0 (by decide)) (fun c0 => ?_)
  refine J_aload_n dX5_settleWinter_30 rfl ?_
  refine J_getR (r := some d) dX5_settleWinter_31 fX5_35 s88 (fun _ => rfl) ((xRL).trans (hS.1.2)) ?_
  refine J_getR (r := some (d + 2)) dX5_settleWinter_34 fX5_250 hS.1.1.s (fun _ => rfl) ((xRL).trans (hS.1.1.e9 hG)) ?_
  refine J_iload_n dX5_settleWinter_37 rfl ?_
  refine J_aald7N (r := some (d + 3 + (num 0))) dX5_settleWinter_38 hS.1.1.s2 (by decide) (by omega) (hS.1.1.esg hG (by omega)) ?_
  refine J_iload_n dX5_settleWinter_39 rfl ?_
  refine J_aload_n dX5_settleWinter_40 rfl ?_
  refine J_getR (r := some 89) dX5_settleWinter_41 fX5_18 s88 (fun _ => rfl) ((xRL).trans (g88_11 hG)) ?_
  refine J_iconstN (n := 2) dX5_settleWinter_44 ?_
  refine J_iload_n dX5_settleWinter_45 rfl ?_
  refine J_iaddN dX5_settleWinter_46 ?_
  refine J_ialdN dX5_settleWinter_47 s89 (by decide) (by omega) ?_
  refine J_cvI ((xIL).trans ((hN _ (by omega)))) ?_
  refine J_iastN dX5_settleWinter_48 (hS.1.1.sg (by omega)) (by decide) (by omega) ?_
  refine J_iinc (y := nI 1) (L' := [some (pR (some 88)), some (pI (nI (num 0))), some (pI (nI 1))]) dX5_settleWinter_49 rfl (by decide) (by decide) rfl ?_
  refine J_goto dX5_settleWinter_52 ?_
  refine J_iload_n dX5_settleWinter_25 rfl ?_
  refine J_iconstN (n := 3) dX5_settleWinter_26 ?_
  refine J_icmp_geN dX5_settleWinter_27 (by decide) (by decide) (fun c0 => absurd c0 (by decide)) (fun c0 => ?_)
  refine J_aload_n dX5_settleWinter_30 rfl ?_
  refine J_getR (r := some d) dX5_settleWinter_31 fX5_35 s88 (fun _ => rfl) ((xRI).trans ((xRL).trans (hS.1.2))) ?_
  refine J_getR (r := some (d + 2)) dX5_settleWinter_34 fX5_250 hS.1.1.s (fun _ => rfl) ((xRI).trans ((xRL).trans (hS.1.1.e9 hG))) ?_
  refine J_iload_n dX5_settleWinter_37 rfl ?_
  refine J_aald7N (r := some (d + 3 + (num 0))) dX5_settleWinter_38 hS.1.1.s2 (by decide) (by omega) (hS.1.1.esg hG (by omega)) ?_
  refine J_iload_n dX5_settleWinter_39 rfl ?_
  refine J_aload_n dX5_settleWinter_40 rfl ?_
  refine J_getR (r := some 89) dX5_settleWinter_41 fX5_18 s88 (fun _ => rfl) ((xRI).trans ((xRL).trans (g88_11 hG))) ?_
  refine J_iconstN (n := 2) dX5_settleWinter_44 ?_
  refine J_iload_n dX5_settleWinter_45 rfl ?_
  refine J_iaddN dX5_settleWinter_46 ?_
  refine J_ialdN dX5_settleWinter_47 s89 (by decide) (by omega) ?_
  refine J_cvI ((rI_c (by omega)).trans ((xIL).trans ((hN _ (by omega))))) ?_
  refine J_iastN dX5_settleWinter_48 (hS.1.1.sg (by omega)) (by decide) (by omega) ?_
  refine J_iinc (y := nI 2) (L' := [some (pR (some 88)), some (pI (nI (num 0))), some (pI (nI 2))]) dX5_settleWinter_49 rfl (by decide) (by decide) rfl ?_
  refine J_goto dX5_settleWinter_52 ?_
  refine J_iload_n dX5_settleWinter_25 rfl ?_
  refine J_iconstN (n := 3) dX5_settleWinter_26 ?_
  refine J_icmp_geN dX5_settleWinter_27 (by decide) (by decide) (fun c0 => absurd c0 (by decide)) (fun c0 => ?_)
  refine J_aload_n dX5_settleWinter_30 rfl ?_
  refine J_getR (r := some d) dX5_settleWinter_31 fX5_35 s88 (fun _ => rfl) ((xRI).trans ((xRI).trans ((xRL).trans (hS.1.2)))) ?_
  refine J_getR (r := some (d + 2)) dX5_settleWinter_34 fX5_250 hS.1.1.s (fun _ => rfl) ((xRI).trans ((xRI).trans ((xRL).trans (hS.1.1.e9 hG)))) ?_
  refine J_iload_n dX5_settleWinter_37 rfl ?_
  refine J_aald7N (r := some (d + 3 + (num 0))) dX5_settleWinter_38 hS.1.1.s2 (by decide) (by omega) (hS.1.1.esg hG (by omega)) ?_
  refine J_iload_n dX5_settleWinter_39 rfl ?_
  refine J_aload_n dX5_settleWinter_40 rfl ?_
  refine J_getR (r := some 89) dX5_settleWinter_41 fX5_18 s88 (fun _ => rfl) ((xRI).trans ((xRI).trans ((xRL).trans (g88_11 hG)))) ?_
  refine J_iconstN (n := 2) dX5_settleWinter_44 ?_
  refine J_iload_n dX5_settleWinter_45 rfl ?_
  refine J_iaddN dX5_settleWinter_46 ?_
  refine J_ialdN dX5_settleWinter_47 s89 (by decide) (by omega) ?_
  refine J_cvI ((rI_c (by omega)).trans ((rI_c (by omega)).trans ((xIL).trans ((hN _ (by omega)))))) ?_
  refine J_iastN dX5_settleWinter_48 (hS.1.1.sg (by omega)) (by decide) (by omega) ?_
  refine J_iinc (y := nI 3) (L' := [some (pR (some 88)), some (pI (nI (num 0))), some (pI (nI 3))]) dX5_settleWinter_49 rfl (by decide) (by decide) rfl ?_
  refine J_goto dX5_settleWinter_52 ?_
  refine J_iload_n dX5_settleWinter_25 rfl ?_
  refine J_iconstN (n := 3) dX5_settleWinter_26 ?_
  refine J_icmp_geN dX5_settleWinter_27 (by decide) (by decide) (fun c0 => ?_) (fun c0 => absurd c0 (by decide))
  refine J_aload_n dX5_settleWinter_55 rfl ?_
  refine J_getR (r := some d) dX5_settleWinter_56 fX5_35 s88 (fun _ => rfl) ((xRI).trans ((xRI).trans ((xRI).trans ((xRL).trans (hS.1.2))))) ?_
  refine J_dup dX5_settleWinter_59 rfl ?_
  refine J_getI dX5_settleWinter_60 fX5_108 hS.1.1.s (fun _ => rfl) ?_
  refine J_cvI ((rI_c (by omega)).trans ((rI_c (by omega)).trans ((rI_c (by omega)).trans ((xIL).trans (hS.2.1.1.2.2.2.1))))) ?_
  refine J_iconstN (n := 1) dX5_settleWinter_63 ?_
  refine J_iaddN dX5_settleWinter_64 ?_
  refine J_putI dX5_settleWinter_65 fX5_108 hS.1.1.s rfl (vp_nar_int _) rfl (fun _ _ => rfl) ?_
  exact J_retV dX5_settleWinter_68 rfl ⟨hS.win hO hm hm4 nm (fun c k z1 z2 => (rI_c (by omega)).trans ((rI_c (by omega)).trans ((rI_c (by omega)).trans ((rI_c (by omega)).trans (xIL))))) (fun k z => (rI_k z).trans ((rI_c (by omega)).trans ((rI_c (by omega)).trans ((rI_c (by omega)).trans (xIL))))) (rI_s) (fun k z => (xLI).trans ((xLI).trans ((xLI).trans ((xLI).trans ((rL_k z)))))) ((xLI).trans ((xLI).trans ((xLI).trans ((xLI).trans (rL_s))))) (all3 ((rI_c (by omega)).trans ((rI_k (by decide)).trans ((rI_k (by decide)).trans (rI_s)))) ((rI_c (by omega)).trans ((rI_k (by decide)).trans (rI_s))) ((rI_c (by omega)).trans (rI_s))) rfl, (((((Rs.rf).tr (Rs.sl (by omega) (by omega))).tr (Rs.s (by omega) (by omega))).tr (Rs.s (by omega) (by omega))).tr (Rs.s (by omega) (by omega))).tr (Rs.s (by omega) (by omega))⟩
theorem c_X5_settleThing {h : PH} {T : Nat → Int32} {d b : Nat} {S : PS} {num : Nat → Nat} (hG : GR h.2.2) (hS : Rp h d T S) (hO : OkS S b) (hm : num 0 = S.1 0 3 0) (hm4 : S.1 0 3 0 < 4) (nm : NmX h T (3 * 6 + cntP S.1 3) (S.2.1 3 (cntP S.1 3))) (hN : ∀ i, i < 7 → h.1 89 i = nI (num i)) (hB : ∀ i, i < 7 → num i ≤ 500) : CtV mX5_settleThing h [pR (some 88), pR (some (d + 9 + 7 * (num 0)))] (fun h' => Rp h' d T (setS S 3 num) ∧ Rs d h h') := by
  have hpb := hS.1.1.b
  refine Ct.of (L := [some (pR (some 88)), some (pR (some (d + 9 + 7 * (num 0))))]) rfl rfl (Nat.le_of_ble_eq_true rfl) rfl ?_
  refine J_aload_n dX5_settleThing_0 rfl ?_
  refine J_cVV (ci := 7) (c := d + 9 + 7 * (num 0)) (as := []) (st := []) dX5_settleThing_1 lX5_254 okX7_setUntold vX7_setUntold (hS.1.1.th (by omega)).s (by decide) rfl rfl rfl (Nat.le_of_ble_eq_true rfl) ⟨Nat.le_of_ble_eq_true rfl, Nat.le_of_ble_eq_true rfl⟩ CR.f (c_X7_setUntold hG (hS.1.1.th (by omega))) (fun g0 e0 => ?_)
  obtain ⟨u1, u2, u6, u8, u9, ut, uw⟩ := e0
  have hG : GR g0.2.2 := by rw [u2]; exact hG
  have hd5 : g0.2.2 88 5 = some d := by rw [u2]; exact hS.1.2
  refine J_aload_n dX5_settleThing_4 rfl ?_
  refine J_aload_n dX5_settleThing_5 rfl ?_
  refine J_getR (r := some 89) dX5_settleThing_6 fX5_18 s88 (fun _ => rfl) (g88_11 hG) ?_
  refine J_iconstN (n := 1) dX5_settleThing_9 ?_
  refine J_ialdN dX5_settleThing_10 s89 (by decide) (by omega) ?_
  refine J_cvI (((u1 _ _ (by omega) (by omega)).trans (hN _ (by omega)))) ?_
  refine J_putI dX5_settleThing_11 fX5_257 (hS.1.1.th (by omega)).s rfl (vp_nar_int _) rfl (fun _ _ => rfl) ?_
  refine J_aload_n dX5_settleThing_14 rfl ?_
  refine J_aload_n dX5_settleThing_15 rfl ?_
  refine J_getR (r := some 89) dX5_settleThing_16 fX5_18 s88 (fun _ => rfl) ((xRI).trans (g88_11 hG)) ?_
  refine J_iconstN (n := 2) dX5_settleThing_19 ?_
  refine J_ialdN dX5_settleThing_20 s89 (by decide) (by omega) ?_
  refine J_cvI ((rI_c (by omega)).trans (((u1 _ _ (by omega) (by omega)).trans (hN _ (by omega))))) ?_
  refine J_putI dX5_settleThing_21 fX5_260 (hS.1.1.th (by omega)).s rfl (vp_nar_int _) rfl (fun _ _ => rfl) ?_
  refine J_aload_n dX5_settleThing_24 rfl ?_
  refine J_aload_n dX5_settleThing_25 rfl ?_
  refine J_getR (r := some 89) dX5_settleThing_26 fX5_18 s88 (fun _ => rfl) ((xRI).trans ((xRI).trans (g88_11 hG))) ?_
  refine J_iconstN (n := 3) dX5_settleThing_29 ?_
  refine J_ialdN dX5_settleThing_30 s89 (by decide) (by omega) ?_
  refine J_cvI ((rI_c (by omega)).trans ((rI_c (by omega)).trans (((u1 _ _ (by omega) (by omega)).trans (hN _ (by omega)))))) ?_
  refine J_putI dX5_settleThing_31 fX5_263 (hS.1.1.th (by omega)).s rfl (vp_nar_int _) rfl (fun _ _ => rfl) ?_
  refine J_aload_n dX5_settleThing_34 rfl ?_
  refine J_aload_n dX5_settleThing_35 rfl ?_
  refine J_getR (r := some 89) dX5_settleThing_36 fX5_18 s88 (fun _ => rfl) ((xRI).trans ((xRI).trans ((xRI).trans (g88_11 hG)))) ?_
  refine J_iconstN (n := 4) dX5_settleThing_39 ?_
  refine J_ialdN dX5_settleThing_40 s89 (by decide) (by omega) ?_
  refine J_cvI ((rI_c (by omega)).trans ((rI_c (by omega)).trans ((rI_c (by omega)).trans (((u1 _ _ (by omega) (by omega)).trans (hN _ (by omega))))))) ?_
  refine J_putI dX5_settleThing_41 fX5_266 (hS.1.1.th (by omega)).s rfl (vp_nar_int _) rfl (fun _ _ => rfl) ?_
  refine J_aload_n dX5_settleThing_44 rfl ?_
  refine J_aload_n dX5_settleThing_45 rfl ?_
  refine J_getR (r := some 89) dX5_settleThing_46 fX5_18 s88 (fun _ => rfl) ((xRI).trans ((xRI).trans ((xRI).trans ((xRI).trans (g88_11 hG))))) ?_
  refine J_iconstN (n := 5) dX5_settleThing_49 ?_
  refine J_ialdN dX5_settleThing_50 s89 (by decide) (by omega) ?_
  refine J_cvI ((rI_c (by omega)).trans ((rI_c (by omega)).trans ((rI_c (by omega)).trans ((rI_c (by omega)).trans (((u1 _ _ (by omega) (by omega)).trans (hN _ (by omega)))))))) ?_
  refine J_putI dX5_settleThing_51 fX5_269 (hS.1.1.th (by omega)).s rfl (vp_nar_int _) rfl (fun _ _ => rfl) ?_
  refine J_aload_n dX5_settleThing_54 rfl ?_
  refine J_aload_n dX5_settleThing_55 rfl ?_
  refine J_getR (r := some 89) dX5_settleThing_56 fX5_18 s88 (fun _ => rfl) ((xRI).trans ((xRI).trans ((xRI).trans ((xRI).trans ((xRI).trans (g88_11 hG)))))) ?_
  refine J_bipush (x := nI 6) dX5_settleThing_59 (by decide) ?_
  refine J_ialdN dX5_settleThing_61 s89 (by decide) (by omega) ?_
  refine J_cvI ((rI_c (by omega)).trans ((rI_c (by omega)).trans ((rI_c (by omega)).trans ((rI_c (by omega)).trans ((rI_c (by omega)).trans (((u1 _ _ (by omega) (by omega)).trans (hN _ (by omega))))))))) ?_
  refine J_putI dX5_settleThing_62 fX5_272 (hS.1.1.th (by omega)).s rfl (vp_nar_int _) rfl (fun _ _ => rfl) ?_
  refine J_aload_n dX5_settleThing_65 rfl ?_
  refine J_getR (r := some d) dX5_settleThing_66 fX5_35 s88 (fun _ => rfl) ((xRI).trans ((xRI).trans ((xRI).trans ((xRI).trans ((xRI).trans ((xRI).trans (hd5))))))) ?_
  refine J_dup dX5_settleThing_69 rfl ?_
  refine J_getI dX5_settleThing_70 fX5_111 hS.1.1.s (fun _ => rfl) ?_
  refine J_cvI ((rI_c (by omega)).trans ((rI_c (by omega)).trans ((rI_c (by omega)).trans ((rI_c (by omega)).trans ((rI_c (by omega)).trans ((rI_c (by omega)).trans (((u1 _ _ (by omega) (by omega)).trans hS.2.1.1.2.2.2.2.1)))))))) ?_
  refine J_iconstN (n := 1) dX5_settleThing_73 ?_
  refine J_iaddN dX5_settleThing_74 ?_
  refine J_putI dX5_settleThing_75 fX5_111 hS.1.1.s rfl (vp_nar_int _) rfl (fun _ _ => rfl) ?_
  exact J_retV dX5_settleThing_78 rfl ⟨hS.thg hO hm hm4 nm (fun c k z1 z2 => (rI_c (by omega)).trans ((rI_c (by omega)).trans ((rI_c (by omega)).trans ((rI_c (by omega)).trans ((rI_c (by omega)).trans ((rI_c (by omega)).trans ((rI_c (by omega)).trans ((u1 _ _ (by omega) (by omega)))))))))) (fun k z => (rI_k z).trans ((rI_c (by omega)).trans ((rI_c (by omega)).trans ((rI_c (by omega)).trans ((rI_c (by omega)).trans ((rI_c (by omega)).trans ((rI_c (by omega)).trans ((u1 _ _ (by omega) (by omega)))))))))) (rI_s) (all6 ((rI_c (by omega)).trans ((rI_k (by decide)).trans ((rI_k (by decide)).trans ((rI_k (by decide)).trans ((rI_k (by decide)).trans ((rI_k (by decide)).trans (rI_s))))))) ((rI_c (by omega)).trans ((rI_k (by decide)).trans ((rI_k (by decide)).trans ((rI_k (by decide)).trans ((rI_k (by decide)).trans (rI_s)))))) ((rI_c (by omega)).trans ((rI_k (by decide)).trans ((rI_k (by decide)).trans ((rI_k (by decide)).trans (rI_s))))) ((rI_c (by omega)).trans ((rI_k (by decide)).trans ((rI_k (by decide)).trans (rI_s)))) ((rI_c (by omega)).trans ((rI_k (by decide)).trans (rI_s))) ((rI_c (by omega)).trans (rI_s))) ((rI_c (by omega)).trans ((rI_k (by decide)).trans ((rI_k (by decide)).trans ((rI_k (by decide)).trans ((rI_k (by decide)).trans ((rI_k (by decide)).trans ((rI_k (by decide)).trans (u6)))))))) ((rI_c (by omega)).trans ((rI_k (by decide)).trans ((rI_k (by decide)).trans ((rI_k (by decide)).trans ((rI_k (by decide)).trans ((rI_k (by decide)).trans ((rI_k (by decide)).trans (u8)))))))) ((rI_c (by omega)).trans ((rI_k (by decide)).trans ((rI_k (by decide)).trans ((rI_k (by decide)).trans ((rI_k (by decide)).trans ((rI_k (by decide)).trans ((rI_k (by decide)).trans (u9)))))))) (fun w hw => (rI_c (by omega)).trans ((rI_c (by omega)).trans ((rI_c (by omega)).trans ((rI_c (by omega)).trans ((rI_c (by omega)).trans ((rI_c (by omega)).trans ((rI_c (by omega)).trans ((ut w hw))))))))) (fun w hw n hn => (rI_c (by omega)).trans ((rI_c (by omega)).trans ((rI_c (by omega)).trans ((rI_c (by omega)).trans ((rI_c (by omega)).trans ((rI_c (by omega)).trans ((rI_c (by omega)).trans ((uw w hw n hn))))))))) u2, ((((((((show Rs d h g0 from ⟨fun c hc => ⟨funext (fun k => u1 c k (by omega) (by omega)), by rw [u2]⟩, by rw [u2]⟩)).tr (Rs.s (by omega) (by omega))).tr (Rs.s (by omega) (by omega))).tr (Rs.s (by omega) (by omega))).tr (Rs.s (by omega) (by omega))).tr (Rs.s (by omega) (by omega))).tr (Rs.s (by omega) (by omega))).tr (Rs.s (by omega) (by omega))⟩
theorem c_X5_settleWant {h : PH} {T : Nat → Int32} {d b : Nat} {S : PS} {num : Nat → Nat} (hG : GR h.2.2) (hS : Rp h d T S) (hO : OkS S b) (hm : num 0 < S.1 0 3 0) (hw1 : num 1 < 4) (hN : ∀ i, i < 7 → h.1 89 i = nI (num i)) (hB : ∀ i, i < 7 → num i ≤ 500) : CtV mX5_settleWant h [pR (some 88), pR (some (d + 9 + 7 * (num 0))), pI (nI (num 1))] (fun h' => Rp h' d T (setS S 4 num) ∧ Rs d h h') := by
  have hpb := hS.1.1.b
  have ht4 := hO.1.1.2.2.2.1
  refine Ct.of (L := [some (pR (some 88)), some (pR (some (d + 9 + 7 * (num 0)))), some (pI (nI (num 1))), none]) rfl rfl (Nat.le_of_ble_eq_true rfl) rfl ?_
  refine J_iconstN (n := 0) dX5_settleWant_0 ?_
  refine J_istore_n (L' := [some (pR (some 88)), some (pR (some (d + 9 + 7 * (num 0)))), some (pI (nI (num 1))), some (pI (nI 0))]) dX5_settleWant_1 (by decide) rfl ?_
  refine J_iload_n dX5_settleWant_2 rfl ?_
  refine J_iconstN (n := 5) dX5_settleWant_3 ?_
  refine J_icmp_geN dX5_settleWant_4 (by decide) (by decide) (fun c0 => absurd c0 (by decide)) (fun c0 => ?_)
  refine J_aload_n dX5_settleWant_7 rfl ?_
  refine J_getR (r := some (d + 9 + 7 * (num 0) + 1)) dX5_settleWant_8 fX5_275 (hS.1.1.th (by omega)).s (fun _ => rfl) ((hS.1.1.th (by omega)).e10 hG) ?_
  refine J_iload_n dX5_settleWant_11 rfl ?_
  refine J_aald7N (r := some (d + 9 + 7 * (num 0) + 2 + (num 1))) dX5_settleWant_12 (hS.1.1.th (by omega)).s1 (by decide) (by omega) ((hS.1.1.th (by omega)).ew hG (by omega)) ?_
  refine J_iload_n dX5_settleWant_13 rfl ?_
  refine J_aload_n dX5_settleWant_14 rfl ?_
  refine J_getR (r := some 89) dX5_settleWant_15 fX5_18 s88 (fun _ => rfl) (g88_11 hG) ?_
  refine J_iconstN (n := 2) dX5_settleWant_18 ?_
  refine J_iload_n dX5_settleWant_19 rfl ?_
  refine J_iaddN dX5_settleWant_20 ?_
  refine J_ialdN dX5_settleWant_21 s89 (by decide) (by omega) ?_
  refine J_cvI ((hN _ (by omega))) ?_
  refine J_iastN dX5_settleWant_22 ((hS.1.1.th (by omega)).sw (by omega)) (by decide) (by omega) ?_
  refine J_iinc (y := nI 1) (L' := [some (pR (some 88)), some (pR (some (d + 9 + 7 * (num 0)))), some (pI (nI (num 1))), some (pI (nI 1))]) dX5_settleWant_23 rfl (by decide) (by decide) rfl ?_
  refine J_goto dX5_settleWant_26 ?_
  refine J_iload_n dX5_settleWant_2 rfl ?_
  refine J_iconstN (n := 5) dX5_settleWant_3 ?_
  refine J_icmp_geN dX5_settleWant_4 (by decide) (by decide) (fun c0 => absurd c0 (by decide)) (fun c0 => ?_)
  refine J_aload_n dX5_settleWant_7 rfl ?_
  refine J_getR (r := some (d + 9 + 7 * (num 0) + 1)) dX5_settleWant_8 fX5_275 (hS.1.1.th (by omega)).s (fun _ => rfl) ((xRI).trans ((hS.1.1.th (by omega)).e10 hG)) ?_
  refine J_iload_n dX5_settleWant_11 rfl ?_
  refine J_aald7N (r := some (d + 9 + 7 * (num 0) + 2 + (num 1))) dX5_settleWant_12 (hS.1.1.th (by omega)).s1 (by decide) (by omega) ((hS.1.1.th (by omega)).ew hG (by omega)) ?_
  refine J_iload_n dX5_settleWant_13 rfl ?_
  refine J_aload_n dX5_settleWant_14 rfl ?_
  refine J_getR (r := some 89) dX5_settleWant_15 fX5_18 s88 (fun _ => rfl) ((xRI).trans (g88_11 hG)) ?_
  refine J_iconstN (n := 2) dX5_settleWant_18 ?_
  refine J_iload_n dX5_settleWant_19 rfl ?_
  refine J_iaddN dX5_settleWant_20 ?_
  refine J_ialdN dX5_settleWant_21 s89 (by decide) (by omega) ?_
  refine J_cvI ((rI_c (by omega)).trans ((hN _ (by omega)))) ?_
  refine J_iastN dX5_settleWant_22 ((hS.1.1.th (by omega)).sw (by omega)) (by decide) (by omega) ?_
  refine J_iinc (y := nI 2) (L' := [some (pR (some 88)), some (pR (some (d + 9 + 7 * (num 0)))), some (pI (nI (num 1))), some (pI (nI 2))]) dX5_settleWant_23 rfl (by decide) (by decide) rfl ?_
  refine J_goto dX5_settleWant_26 ?_
  refine J_iload_n dX5_settleWant_2 rfl ?_
  refine J_iconstN (n := 5) dX5_settleWant_3 ?_
  refine J_icmp_geN dX5_settleWant_4 (by decide) (by decide) (fun c0 => absurd c0 (by decide)) (fun c0 => ?_)
  refine J_aload_n dX5_settleWant_7 rfl ?_
  refine J_getR (r := some (d + 9 + 7 * (num 0) + 1)) dX5_settleWant_8 fX5_275 (hS.1.1.th (by omega)).s (fun _ => rfl) ((xRI).trans ((xRI).trans ((hS.1.1.th (by omega)).e10 hG))) ?_
  refine J_iload_n dX5_settleWant_11 rfl ?_
  refine J_aald7N (r := some (d + 9 + 7 * (num 0) + 2 + (num 1))) dX5_settleWant_12 (hS.1.1.th (by omega)).s1 (by decide) (by omega) ((hS.1.1.th (by omega)).ew hG (by omega)) ?_
  refine J_iload_n dX5_settleWant_13 rfl ?_
  refine J_aload_n dX5_settleWant_14 rfl ?_
  refine J_getR (r := some 89) dX5_settleWant_15 fX5_18 s88 (fun _ => rfl) ((xRI).trans ((xRI).trans (g88_11 hG))) ?_
  refine J_iconstN (n := 2) dX5_settleWant_18 ?_
  refine J_iload_n dX5_settleWant_19 rfl ?_
  refine J_iaddN dX5_settleWant_20 ?_
  refine J_ialdN dX5_settleWant_21 s89 (by decide) (by omega) ?_
  refine J_cvI ((rI_c (by omega)).trans ((rI_c (by omega)).trans ((hN _ (by omega))))) ?_
  refine J_iastN dX5_settleWant_22 ((hS.1.1.th (by omega)).sw (by omega)) (by decide) (by omega) ?_
  refine J_iinc (y := nI 3) (L' := [some (pR (some 88)), some (pR (some (d + 9 + 7 * (num 0)))), some (pI (nI (num 1))), some (pI (nI 3))]) dX5_settleWant_23 rfl (by decide) (by decide) rfl ?_
  refine J_goto dX5_settleWant_26 ?_
  refine J_iload_n dX5_settleWant_2 rfl ?_
  refine J_iconstN (n := 5) dX5_settleWant_3 ?_
  refine J_icmp_geN dX5_settleWant_4 (by decide) (by decide) (fun c0 => absurd c0 (by decide)) (fun c0 => ?_)
  refine J_aload_n dX5_settleWant_7 rfl ?_
  refine J_getR (r := some (d + 9 + 7 * (num 0) + 1)) dX5_settleWant_8 fX5_275 (hS.1.1.th (by omega)).s (fun _ => rfl) ((xRI).trans ((xRI).trans ((xRI).trans ((hS.1.1.th (by omega)).e10 hG)))) ?_
  refine J_iload_n dX5_settleWant_11 rfl ?_
  refine J_aald7N (r := some (d + 9 + 7 * (num 0) + 2 + (num 1))) dX5_settleWant_12 (hS.1.1.th (by omega)).s1 (by decide) (by omega) ((hS.1.1.th (by omega)).ew hG (by omega)) ?_
  refine J_iload_n dX5_settleWant_13 rfl ?_
  refine J_aload_n dX5_settleWant_14 rfl ?_
  refine J_getR (r := some 89) dX5_settleWant_15 fX5_18 s88 (fun _ => rfl) ((xRI).trans ((xRI).trans ((xRI).trans (g88_11 hG)))) ?_
  refine J_iconstN (n := 2) dX5_settleWant_18 ?_
  refine J_iload_n dX5_settleWant_19 rfl ?_
  refine J_iaddN dX5_settleWant_20 ?_
  refine J_ialdN dX5_settleWant_21 s89 (by decide) (by omega) ?_
  refine J_cvI ((rI_c (by omega)).trans ((rI_c (by omega)).trans ((rI_c (by omega)).trans ((hN _ (by omega)))))) ?_
  refine J_iastN dX5_settleWant_22 ((hS.1.1.th (by omega)).sw (by omega)) (by decide) (by omega) ?_
  refine J_iinc (y := nI 4) (L' := [some (pR (some 88)), some (pR (some (d + 9 + 7 * (num 0)))), some (pI (nI (num 1))), some (pI (nI 4))]) dX5_settleWant_23 rfl (by decide) (by decide) rfl ?_
  refine J_goto dX5_settleWant_26 ?_
  refine J_iload_n dX5_settleWant_2 rfl ?_
  refine J_iconstN (n := 5) dX5_settleWant_3 ?_
  refine J_icmp_geN dX5_settleWant_4 (by decide) (by decide) (fun c0 => absurd c0 (by decide)) (fun c0 => ?_)
  refine J_aload_n dX5_settleWant_7 rfl ?_
  refine J_getR (r := some (d + 9 + 7 * (num 0) + 1)) dX5_settleWant_8 fX5_275 (hS.1.1.th (by omega)).s (fun _ => rfl) ((xRI).trans ((xRI).trans ((xRI).trans ((xRI).trans ((hS.1.1.th (by omega)).e10 hG))))) ?_
  refine J_iload_n dX5_settleWant_11 rfl ?_
  refine J_aald7N (r := some (d + 9 + 7 * (num 0) + 2 + (num 1))) dX5_settleWant_12 (hS.1.1.th (by omega)).s1 (by decide) (by omega) ((hS.1.1.th (by omega)).ew hG (by omega)) ?_
  refine J_iload_n dX5_settleWant_13 rfl ?_
  refine J_aload_n dX5_settleWant_14 rfl ?_
  refine J_getR (r := some 89) dX5_settleWant_15 fX5_18 s88 (fun _ => rfl) ((xRI).trans ((xRI).trans ((xRI).trans ((xRI).trans (g88_11 hG))))) ?_
  refine J_iconstN (n := 2) dX5_settleWant_18 ?_
  refine J_iload_n dX5_settleWant_19 rfl ?_
  refine J_iaddN dX5_settleWant_20 ?_
  refine J_ialdN dX5_settleWant_21 s89 (by decide) (by omega) ?_
  refine J_cvI ((rI_c (by omega)).trans ((rI_c (by omega)).trans ((rI_c (by omega)).trans ((rI_c (by omega)).trans ((hN _ (by omega))))))) ?_
  refine J_iastN dX5_settleWant_22 ((hS.1.1.th (by omega)).sw (by omega)) (by decide) (by omega) ?_
  refine J_iinc (y := nI 5) (L' := [some (pR (some 88)), some (pR (some (d + 9 + 7 * (num 0)))), some (pI (nI (num 1))), some (pI (nI 5))]) dX5_settleWant_23 rfl (by decide) (by decide) rfl ?_
  refine J_goto dX5_settleWant_26 ?_
  refine J_iload_n dX5_settleWant_2 rfl ?_
  refine J_iconstN (n := 5) dX5_settleWant_3 ?_
  refine J_icmp_geN dX5_settleWant_4 (by decide) (by decide) (fun c0 => ?_) (fun c0 => absurd c0 (by decide))
  refine J_aload_n dX5_settleWant_29 rfl ?_
  refine J_getR (r := some (d + 9 + 7 * (num 0) + 6)) dX5_settleWant_30 fX5_200 (hS.1.1.th (by omega)).s (fun _ => rfl) ((xRI).trans ((xRI).trans ((xRI).trans ((xRI).trans ((xRI).trans ((hS.1.1.th (by omega)).e11 hG)))))) ?_
  refine J_iload_n dX5_settleWant_33 rfl ?_
  refine J_iconstN (n := 1) dX5_settleWant_34 ?_
  refine J_zastN dX5_settleWant_35 (hS.1.1.th (by omega)).s6 (by decide) (by omega) ?_
  exact J_retV dX5_settleWant_36 rfl ⟨hS.wn4 hO hm hw1 (fun c k z1 z2 => (rI_c (by omega)).trans ((rI_c (by omega)).trans ((rI_c (by omega)).trans ((rI_c (by omega)).trans ((rI_c (by omega)).trans ((rI_c (by omega)))))))) (fun w z => (rI_k z).trans ((rI_c (by omega)).trans ((rI_c (by omega)).trans ((rI_c (by omega)).trans ((rI_c (by omega)).trans ((rI_c (by omega)))))))) ((rI_s).trans ((by decide))) (all5 ((rI_c (by omega)).trans ((rI_k (by decide)).trans ((rI_k (by decide)).trans ((rI_k (by decide)).trans ((rI_k (by decide)).trans (rI_s)))))) ((rI_c (by omega)).trans ((rI_k (by decide)).trans ((rI_k (by decide)).trans ((rI_k (by decide)).trans (rI_s))))) ((rI_c (by omega)).trans ((rI_k (by decide)).trans ((rI_k (by decide)).trans (rI_s)))) ((rI_c (by omega)).trans ((rI_k (by decide)).trans (rI_s))) ((rI_c (by omega)).trans (rI_s))) rfl, ((((((Rs.rf).tr (Rs.s (by omega) (by omega))).tr (Rs.s (by omega) (by omega))).tr (Rs.s (by omega) (by omega))).tr (Rs.s (by omega) (by omega))).tr (Rs.s (by omega) (by omega))).tr (Rs.s (by omega) (by omega))⟩
theorem c_X5_settleFamily {h : PH} {T : Nat → Int32} {d b : Nat} {S : PS} {num : Nat → Nat} (hG : GR h.2.2) (hS : Rp h d T S) (hO : OkS S b) (hm : num 0 = S.1 0 4 0) (hm4 : S.1 0 4 0 < 6) (nm : NmX h T (6 * 6 + cntP S.1 6) (S.2.1 6 (cntP S.1 6))) (hN : ∀ i, i < 4 → h.1 89 i = nI (num i)) (hB : ∀ i, i < 4 → num i ≤ 500) : CtV mX5_settleFamily h [pR (some 88), pR (some (d + 37 + num 0))] (fun h' => Rp h' d T (setS S 6 num) ∧ Rs d h h') := by
  have hpb := hS.1.1.b
  refine Ct.of (L := [some (pR (some 88)), some (pR (some (d + 37 + (num 0))))]) rfl rfl (Nat.le_of_ble_eq_true rfl) rfl ?_
  refine J_aload_n dX5_settleFamily_0 rfl ?_
  refine J_aload_n dX5_settleFamily_1 rfl ?_
  refine J_getR (r := some 89) dX5_settleFamily_2 fX5_18 s88 (fun _ => rfl) (g88_11 hG) ?_
  refine J_iconstN (n := 1) dX5_settleFamily_5 ?_
  refine J_ialdN dX5_settleFamily_6 s89 (by decide) (by omega) ?_
  refine J_cvI ((hN _ (by omega))) ?_
  refine J_putI dX5_settleFamily_7 fX5_277 (hS.1.1.sf (by omega)) rfl (vp_nar_int _) rfl (fun _ _ => rfl) ?_
  refine J_aload_n dX5_settleFamily_10 rfl ?_
  refine J_aload_n dX5_settleFamily_11 rfl ?_
  refine J_getR (r := some 89) dX5_settleFamily_12 fX5_18 s88 (fun _ => rfl) ((xRI).trans (g88_11 hG)) ?_
  refine J_iconstN (n := 2) dX5_settleFamily_15 ?_
  refine J_ialdN dX5_settleFamily_16 s89 (by decide) (by omega) ?_
  refine J_cvI ((rI_c (by omega)).trans ((hN _ (by omega)))) ?_
  refine J_putI dX5_settleFamily_17 fX5_282 (hS.1.1.sf (by omega)) rfl (vp_nar_int _) rfl (fun _ _ => rfl) ?_
  refine J_aload_n dX5_settleFamily_20 rfl ?_
  refine J_aload_n dX5_settleFamily_21 rfl ?_
  refine J_getR (r := some 89) dX5_settleFamily_22 fX5_18 s88 (fun _ => rfl) ((xRI).trans ((xRI).trans (g88_11 hG))) ?_
  refine J_iconstN (n := 3) dX5_settleFamily_25 ?_
  refine J_ialdN dX5_settleFamily_26 s89 (by decide) (by omega) ?_
  refine J_cvI ((rI_c (by omega)).trans ((rI_c (by omega)).trans ((hN _ (by omega))))) ?_
  refine J_putI dX5_settleFamily_27 fX5_285 (hS.1.1.sf (by omega)) rfl (vp_nar_int _) rfl (fun _ _ => rfl) ?_
  refine J_aload_n dX5_settleFamily_30 rfl ?_
  refine J_getR (r := some d) dX5_settleFamily_31 fX5_35 s88 (fun _ => rfl) ((xRI).trans ((xRI).trans ((xRI).trans (hS.1.2)))) ?_
  refine J_dup dX5_settleFamily_34 rfl ?_
  refine J_getI dX5_settleFamily_35 fX5_114 hS.1.1.s (fun _ => rfl) ?_
  refine J_cvI ((rI_c (by omega)).trans ((rI_c (by omega)).trans ((rI_c (by omega)).trans (hS.2.1.1.2.2.2.2.2)))) ?_
  refine J_iconstN (n := 1) dX5_settleFamily_38 ?_
  refine J_iaddN dX5_settleFamily_39 ?_
  refine J_putI dX5_settleFamily_40 fX5_114 hS.1.1.s rfl (vp_nar_int _) rfl (fun _ _ => rfl) ?_
  exact J_retV dX5_settleFamily_43 rfl ⟨hS.fmy hO hm hm4 nm (fun c k z1 z2 => (rI_c (by omega)).trans ((rI_c (by omega)).trans ((rI_c (by omega)).trans ((rI_c (by omega)))))) (fun k z => (rI_k z).trans ((rI_c (by omega)).trans ((rI_c (by omega)).trans ((rI_c (by omega)))))) (rI_s) (all3 ((rI_c (by omega)).trans ((rI_k (by decide)).trans ((rI_k (by decide)).trans (rI_s)))) ((rI_c (by omega)).trans ((rI_k (by decide)).trans (rI_s))) ((rI_c (by omega)).trans (rI_s))) rfl, ((((Rs.rf).tr (Rs.s (by omega) (by omega))).tr (Rs.s (by omega) (by omega))).tr (Rs.s (by omega) (by omega))).tr (Rs.s (by omega) (by omega))⟩
