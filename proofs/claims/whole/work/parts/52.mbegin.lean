/-! ===== the model's runs ===== -/
theorem sI_sI {h : PH} {c k : Nat} {x y : Int32} : sI (sI h c k x) c k y = sI h c k y := by
  unfold sI
  rw [rW_s, wI_wI]
  congr 1
  funext j
  unfold upd
  split <;> rfl
theorem Fr.m179 {h h' : PH} (f : Fr 179 179 h h') : MFr h h' := ⟨fun c x y => f.1 c (by omega), fun k _ => f.i (by decide), f.2, fun c x => f.1 c (by omega)⟩
theorem wk6 {h g : PH} {a b c d e f : Int32} (z : g = sI (sI (sI (sI (sI (sI h 158 27 a) 158 28 b) 158 29 c) 158 31 d) 158 30 e) 158 31 f) : (g.1 158 27 = a ∧ g.1 158 28 = b ∧ g.1 158 29 = c ∧ g.1 158 30 = e ∧ g.1 158 31 = f) ∧ FG h g := by
  subst z
  exact ⟨⟨(rI_k (by decide)).trans ((rI_k (by decide)).trans ((rI_k (by decide)).trans ((rI_k (by decide)).trans ((rI_k (by decide)).trans rI_s)))), (rI_k (by decide)).trans ((rI_k (by decide)).trans ((rI_k (by decide)).trans ((rI_k (by decide)).trans rI_s))), (rI_k (by decide)).trans ((rI_k (by decide)).trans ((rI_k (by decide)).trans rI_s)), (rI_k (by decide)).trans rI_s, rI_s⟩, (((((FG.f (by decide) (by decide)).tr (FG.f (by decide) (by decide))).tr (FG.f (by decide) (by decide))).tr (FG.f (by decide) (by decide))).tr (FG.f (by decide) (by decide))).tr (FG.f (by decide) (by decide))⟩
theorem TM.o {h h' : PH} {t rk rl so : Nat} (q : TM h t rk rl so) (e : ∀ c, c < 173 → c ≠ 158 → h'.1 c = h.1 c) : TM h' t rk rl so := ⟨(congrFun (e 171 (by decide) (by decide)) _).trans q.1, (congrFun (e 172 (by decide) (by decide)) _).trans q.2.1, (congrFun (e 165 (by decide) (by decide)) _).trans q.2.2.1, q.2.2.2⟩
theorem WM.o2 {h h' : PH} {t w : Nat} {u : Nat → Nat} (a : WM h t w u) (e : ∀ c, c < 173 → c ≠ 158 → h'.1 c = h.1 c) : WM h' t w u := fun n hn => ⟨(congrFun (e 166 (by decide) (by decide)) _).trans (a n hn).1, (a n hn).2⟩
theorem c_X10_draw {h : PH} {s : Nat} (hG : GR h.2.2) (h5 : h.2.1 185 0 = lN s) (hs : s < 2147483648) : CtI mX10_draw h [pR (some 158), pI (nI 10)] (fun v h' => v = nI (dv (dr s)) ∧ h' = sL h 185 0 (lN (dr s))) := by
  have hd := dr_lt s
  refine Ct.of (L := [some (pR (some 158)), some (pI (nI 10))]) rfl rfl (Nat.le_of_ble_eq_true rfl) rfl ?_
  refine J_aload_n dX10_draw_0 rfl ?_
  refine J_getR (r := some 185) dX10_draw_1 fX10_98 s158 (fun _ => rfl) (g158_49 hG) ?_
  refine J_iconstN (n := 0) dX10_draw_4 ?_
  refine J_ldc2 dX10_draw_5 kX10_374 ?_
  refine J_cvL (y := lN 1103515245) (by decide) ?_
  refine J_aload_n dX10_draw_8 rfl ?_
  refine J_getR (r := some 185) dX10_draw_9 fX10_98 s158 (fun _ => rfl) (g158_49 hG) ?_
  refine J_iconstN (n := 0) dX10_draw_12 ?_
  refine J_laldN dX10_draw_13 s185 (by decide) (by omega) ?_
  refine J_cvL (h5) ?_
  refine J_lmul dX10_draw_14 ?_
  refine J_cvL (lN_mul _ _) ?_
  refine J_ldc2 dX10_draw_15 kX10_376 ?_
  refine J_cvL (y := lN 12345) (by decide) ?_
  refine J_ladd dX10_draw_18 ?_
  refine J_cvL (lN_add _ _) ?_
  refine J_ldc2 dX10_draw_19 kX10_378 ?_
  refine J_cvL (y := lN 2147483648) (by decide) ?_
  refine J_lrem dX10_draw_22 (lN_n0 (by omega) (by omega)) ?_
  refine J_cvL (pk_lRem (by omega) (by omega) (by omega)) ?_
  refine J_cvL (y := lN (dr s)) rfl ?_
  refine J_lastN dX10_draw_23 s185 (by decide) (by omega) ?_
  refine J_aload_n dX10_draw_24 rfl ?_
  refine J_getR (r := some 185) dX10_draw_25 fX10_98 s158 (fun _ => rfl) ((xRL).trans (g158_49 hG)) ?_
  refine J_iconstN (n := 0) dX10_draw_28 ?_
  refine J_laldN dX10_draw_29 s185 (by decide) (by omega) ?_
  refine J_cvL (rL_s) ?_
  refine J_ldc2 dX10_draw_30 kX10_380 ?_
  refine J_cvL (y := lN 65536) (by decide) ?_
  refine J_ldiv dX10_draw_33 (lN_n0 (by omega) (by omega)) ?_
  refine J_cvL (pk_lDiv (by omega) (by omega) (by omega)) ?_
  refine J_iload_n dX10_draw_34 rfl ?_
  refine J_i2lN dX10_draw_35 (by omega) ?_
  refine J_lrem dX10_draw_36 (lN_n0 (by omega) (by omega)) ?_
  refine J_cvL (pk_lRem (by omega) (by omega) (by omega)) ?_
  refine J_l2i dX10_draw_37 ?_
  refine J_cvI (lN_to (by omega)) ?_
  exact J_retI dX10_draw_38 rfl ⟨rfl, rfl⟩
theorem c_X10_readList {h : PH} {A : AS} {n : Nat} (hG : GR h.2.2) (hM : MI h A) (hW : WF A) (hn : n ≤ 900) : CtI mX10_readList h [pR (some 158), pI (nI n)] (fun v h' => v = bI (rowOk (aP A) (aT A) n) ∧ Fr 179 179 h h' ∧ (rowOk (aP A) (aT A) n → ∀ t, t < n → h'.1 179 t = nI (rq (aT A) t))) := by
  have bN := hW.1
  have bk := hW.wk
  have bc := hW.cs
  have bw := hW.wn
  have bt := hW.tn
  have bf := hW.fn
  have hG0 := hG
  refine Ct.of (L := [some (pR (some 158)), some (pI (nI n)), none]) rfl rfl (Nat.le_of_ble_eq_true rfl) rfl ?_
  refine J_iload_n dX10_readList_0 rfl ?_
  refine J_aload_n dX10_readList_1 rfl ?_
  refine J_getR (r := some 160) dX10_readList_2 fX10_17 s158 (fun _ => rfl) (g158_12 hG) ?_
  refine J_iconstN (n := 3) dX10_readList_5 ?_
  refine J_ialdN dX10_readList_6 s160 (by decide) (by omega) ?_
  refine J_cvI ((hM.nm (k := 3) (by decide))) ?_
  refine J_icmp_eqN dX10_readList_7 (by omega) (by omega) (fun c1 => ?_) (fun c1 => ?_)
  · refine J_iconstN (n := 0) dX10_readList_12 ?_
    refine J_istore_n (L' := [some (pR (some 158)), some (pI (nI n)), some (pI (nI 0))]) dX10_readList_13 (by decide) rfl ?_
    refine J_L (L' := [some (pR (some 158)), some (pI (nI n)), some (pI (nI 0))]) rfl ?_
    refine J_forI (α := Unit) (L := fun i1 aa1 => [some (pR (some 158)), some (pI (nI n)), some (pI (nI i1))]) (fun i1 aa1 h1 => (∀ j, j < i1 → inR (aT A j - nI 48) 41 ∧ h1.1 179 j = nI (rq (aT A) j)) ∧ Fr 179 179 h h1) (e := n) (fun aa1 h1 hI1 => ?_) (fun i1 aa1 h1 hi1 hI1 ih1 => ?_) 0 (()) _ (by omega) (⟨fun j hj => absurd hj (Nat.not_lt_zero j), Fr.rf⟩)
    · show J _ _ _ _ _ [some (pR (some 158)), some (pI (nI n)), some (pI (nI n))] _ _ h1
      obtain ⟨hI2, hI3⟩ := hI1
      have hG := hI3.g hG0
      refine J_iload_n dX10_readList_14 rfl ?_
      refine J_iload_n dX10_readList_15 rfl ?_
      refine J_icmp_geN dX10_readList_16 (by omega) (by omega) (fun c2 => ?_) (fun c2 => ?_)
      · refine J_iconstN (n := 1) dX10_readList_54 ?_
        exact J_retZ dX10_readList_55 rfl rfl ⟨bI_t ⟨by omega, fun t ht => (hI2 t ht).1⟩, hI3, fun _ t ht => (hI2 t ht).2⟩
      · exact (show False by omega).elim
    · show J _ _ _ _ _ [some (pR (some 158)), some (pI (nI n)), some (pI (nI i1))] _ _ h1
      obtain ⟨hI2, hI3⟩ := hI1
      have hG := hI3.g hG0
      refine J_iload_n dX10_readList_14 rfl ?_
      refine J_iload_n dX10_readList_15 rfl ?_
      refine J_icmp_geN dX10_readList_16 (by omega) (by omega) (fun c3 => ?_) (fun c3 => ?_)
      · exact (show False by omega).elim
      · refine J_aload_n dX10_readList_19 rfl ?_
        refine J_getR (r := some 179) dX10_readList_20 fX10_80 s158 (fun _ => rfl) (g158_43 hG) ?_
        refine J_iload_n dX10_readList_23 rfl ?_
        refine J_aload_n dX10_readList_24 rfl ?_
        refine J_getR (r := some 159) dX10_readList_25 fX10_7 s158 (fun _ => rfl) (g158_0 hG) ?_
        refine J_iload_n dX10_readList_28 rfl ?_
        refine J_baldN dX10_readList_29 s159 (by decide) (by omega) ?_
        refine J_cvI (((hI3.i (by decide)).trans (hM.1.1 i1 (by omega)))) ?_
        refine J_bipush (x := nI 48) dX10_readList_30 (by decide) ?_
        refine J_isub dX10_readList_32 ?_
        refine J_iastN dX10_readList_33 s179 (by decide) (by omega) ?_
        refine J_aload_n dX10_readList_34 rfl ?_
        refine J_getR (r := some 179) dX10_readList_35 fX10_80 s158 (fun _ => rfl) ((xRI).trans (g158_43 hG)) ?_
        refine J_iload_n dX10_readList_38 rfl ?_
        refine J_ialdN dX10_readList_39 s179 (by decide) (by omega) ?_
        refine J_cvI (rI_s) ?_
        refine J_cSI (as := [pI ((aT A i1) - (nI 48))]) (st := []) dX10_readList_40 lX10_303 okX10_isOrder sX10_isOrder rfl rfl (Nat.le_of_ble_eq_true rfl) ⟨Nat.le_of_ble_eq_true rfl, Nat.le_of_ble_eq_true rfl⟩ CR.f (c_X10_isOrder) (fun vq4 gq4 eq4 => ?_)
        obtain ⟨rfl, fq4⟩ := eq4
        rw [fq4]
        refine J_if_neB dX10_readList_43 (fun d1 => ?_) (fun d1 => ?_)
        · refine J_iincN (n := 1) (L' := [some (pR (some 158)), some (pI (nI n)), some (pI (nI (i1 + 1)))]) dX10_readList_48 rfl (by decide) rfl ?_
          refine J_goto dX10_readList_51 ?_
          exact ih1 () _ ⟨fun j hj => by
        by_cases q : j = i1
        · subst q; exact ⟨d1, rI_s.trans (rq_eq d1).1⟩
        · exact ⟨(hI2 j (by omega)).1, (rI_k q).trans (hI2 j (by omega)).2⟩, hI3.tr (Fr.sI (by decide) (by decide))⟩
        · refine J_iconstN (n := 0) dX10_readList_46 ?_
          exact J_retZ dX10_readList_47 rfl rfl ⟨bI_f (fun q => d1 (q.2 i1 (by omega))), hI3.tr (Fr.sI (by decide) (by decide)), fun z => absurd (z.2 i1 (by omega)) d1⟩
  · refine J_iconstN (n := 0) dX10_readList_10 ?_
    exact J_retZ dX10_readList_11 rfl rfl ⟨bI_f (fun q => absurd q.1 (by omega)), Fr.rf, fun z => absurd z.1 (by omega)⟩
theorem c_X10_begin__in {h : PH} {A : AS} {s : Nat} (hG : GR h.2.2) (hM : MI h A) (hW : WF A) (hs : s < 2147483648) (hn : 0 < aP A 0 2 0) (hr : rowOk (aP A) (aT A) (aN A)) : CtI mX10_begin_ h [pR (some 158), pI (nI s)] (fun v h' => v = nI (bgR (aP A) s 1) ∧ MP h h' (bgA A s)) := by
  have bN := hW.1
  have bk := hW.wk
  have bc := hW.cs
  have bw := hW.wn
  have bt := hW.tn
  have bf := hW.fn
  refine Ct.of (L := [some (pR (some 158)), some (pI (nI s)), none, none, none, none]) rfl rfl (Nat.le_of_ble_eq_true rfl) rfl ?_
  refine J_aload_n dX10_begin__0 rfl ?_
  refine J_getI dX10_begin__1 fX10_110 s158 (fun _ => rfl) ?_
  refine J_cvI (hM.1.2) ?_
  refine J_istore_n (L' := [some (pR (some 158)), some (pI (nI s)), some (pI (nI (aN A))), none, none, none]) dX10_begin__4 (by decide) rfl ?_
  refine J_aload_n dX10_begin__5 rfl ?_
  refine J_iconstN (n := 0) dX10_begin__6 ?_
  refine J_putI dX10_begin__7 fX10_110 s158 rfl (vp_nar_int _) rfl (fun _ _ => rfl) ?_
  have hM : MI (sI h 158 1 (nI 0)) (eA A) := hM.emp
  have hF : Fr 158 186 h (sI h 158 1 (nI 0)) := Fr.sI (by decide) (by decide)
  generalize hg0 : sI h 158 1 (nI 0) = g0 at hM hF ⊢
  have hG : GR g0.2.2 := by rw [hF.2]; exact hG
  have hW0 := hW
  have hW : WF (eA A) := hW.emp
  refine J_iload_n dX10_begin__10 rfl ?_
  refine J_if_geN dX10_begin__11 (by omega) ?_
  refine J_aload_n dX10_begin__17 rfl ?_
  refine J_cVI (ci := 10) (c := 158) (as := []) (st := []) dX10_begin__18 lX10_234 okX10_hasWinters vX10_hasWinters s158 (by decide) rfl rfl rfl (Nat.le_of_ble_eq_true rfl) ⟨Nat.le_of_ble_eq_true rfl, Nat.le_of_ble_eq_true rfl⟩ CR.f (c_X10_hasWinters (n := aP A 0 2 0) hG (hM.nm (by decide)) (by omega)) (fun vq1 gq1 eq1 => ?_)
  obtain ⟨rfl, fq1⟩ := eq1
  rw [fq1]
  refine J_if_neB dX10_begin__21 (fun c2 => ?_) (fun c2 => ?_)
  · refine J_aload_n dX10_begin__27 rfl ?_
    refine J_iload_n dX10_begin__28 rfl ?_
    refine J_cVI (ci := 10) (c := 158) (as := [pI (nI (aN A))]) (st := []) dX10_begin__29 lX10_347 okX10_readList vX10_readList s158 (by decide) rfl rfl rfl (Nat.le_of_ble_eq_true rfl) ⟨Nat.le_of_ble_eq_true rfl, Nat.le_of_ble_eq_true rfl⟩ CR.f (c_X10_readList (A := eA A) hG hM hW (by omega)) (fun v1 g1 e1 => ?_)
    obtain ⟨rfl, f1, zr⟩ := e1
    have hG := f1.g hG
    have hM := hM.mq f1.m179
    have hF := hF.tr f1.m179.fr
    refine J_cvI (y := bI (rowOk (aP A) (aT A) (aN A))) rfl ?_
    refine J_if_neB dX10_begin__32 (fun c3 => ?_) (fun c3 => ?_)
    · refine J_iconstN (n := 0) dX10_begin__37 ?_
      refine J_istore_n (L' := [some (pR (some 158)), some (pI (nI s)), some (pI (nI (aN A))), some (pI (nI 0)), none, none]) dX10_begin__38 (by decide) rfl ?_
      refine J_L (L' := [some (pR (some 158)), some (pI (nI s)), some (pI (nI (aN A))), some (pI (nI 0)), none, none]) rfl ?_
      have hG1 := hG
      have zr := zr hr
      have bT : aP A 0 3 0 ≤ 4 := bt
      refine J_forI (α := Unit) (L := fun i1 aa1 => [some (pR (some 158)), some (pI (nI s)), some (pI (nI (aN A))), some (pI (nI i1)), none, none]) (fun i1 aa1 h1 => (∀ j, j < i1 → h1.1 184 j = nI 0) ∧ (∀ j, 32 ≤ j → h1.1 184 j = g1.1 184 j) ∧ Fr 184 184 g1 h1) (e := 32) (fun aa1 h1 hI1 => ?_) (fun i1 aa1 h1 hi1 hI1 ih1 => ?_) 0 (()) _ (by omega) (⟨fun j hj => absurd hj (Nat.not_lt_zero j), fun _ _ => rfl, Fr.rf⟩)
      · show J _ _ _ _ _ [some (pR (some 158)), some (pI (nI s)), some (pI (nI (aN A))), some (pI (nI 32)), none, none] _ _ h1
        obtain ⟨hI2, hI3, hI4⟩ := hI1
        have hG := hI4.g hG1
        refine J_iload_n dX10_begin__39 rfl ?_
        refine J_bipush (x := nI 32) dX10_begin__40 (by decide) ?_
        refine J_icmp_geN dX10_begin__42 (by decide) (by decide) (fun c0 => ?_) (fun c0 => absurd c0 (by decide))
        refine J_aload_n dX10_begin__58 rfl ?_
        refine J_getR (r := some 185) dX10_begin__59 fX10_98 s158 (fun _ => rfl) (g158_49 hG) ?_
        refine J_iconstN (n := 0) dX10_begin__62 ?_
        refine J_iload_n dX10_begin__63 rfl ?_
        refine J_i2lN dX10_begin__64 (by omega) ?_
        refine J_lastN dX10_begin__65 s185 (by decide) (by omega) ?_
        refine J_aload_n dX10_begin__66 rfl ?_
        refine J_bipush (x := nI 10) dX10_begin__67 (by decide) ?_
        refine J_cVI (ci := 10) (c := 158) (as := [pI (nI 10)]) (st := []) dX10_begin__69 lX10_382 okX10_draw vX10_draw s158 (by decide) rfl rfl rfl (Nat.le_of_ble_eq_true rfl) ⟨Nat.le_of_ble_eq_true rfl, Nat.le_of_ble_eq_true rfl⟩ CR.f (c_X10_draw hG rL_s hs) (fun v2 g2 e2 => ?_)
        obtain ⟨rfl, e2⟩ := e2
        have hdv := dv_lt (dr s)
        have F2 : FRm 0 g1 g2 := by rw [e2]; exact ((FRm.c hI4 (fun j hj => hI3 j (by omega))).tr FRm.s).tr FRm.s
        have hG := F2.g hG1
        have g2z : ∀ j, j < 32 → g2.1 184 j = nI 0 := fun j hj => by rw [e2]; exact hI2 j hj
        have g2s : g2.2.1 185 0 = lN (dr s) := by rw [e2]; exact rL_s
        have hxs := hW0.xs hn
        refine J_istore_n (L' := [some (pR (some 158)), some (pI (nI s)), some (pI (nI (aN A))), some (pI (nI (dv (dr s)))), none, none]) dX10_begin__72 (by decide) rfl ?_
        refine J_iconstN (n := 0) dX10_begin__73 ?_
        refine J_istore (L' := [some (pR (some 158)), some (pI (nI s)), some (pI (nI (aN A))), some (pI (nI (dv (dr s)))), some (pI (nI 0)), none]) dX10_begin__74 (by decide) rfl ?_
        refine J_L (L' := [some (pR (some 158)), some (pI (nI s)), some (pI (nI (aN A))), some (pI (nI (dv (dr s) - sm (fun w => aP A 1 w 0) 0))), some (pI (nI 0)), none]) rfl ?_
        refine J_forI (α := Unit) (L := fun i22 aa22 => [some (pR (some 158)), some (pI (nI s)), some (pI (nI (aN A))), some (pI (nI (dv (dr s) - sm (fun w => aP A 1 w 0) i22))), some (pI (nI i22)), none]) (fun i22 aa22 h22 => g2 = h22 ∧ sm (fun w => aP A 1 w 0) i22 ≤ dv (dr s)) (e := aP A 0 2 0) (fun aa22 h22 hI22 => absurd hI22.2 (by omega)) (fun i22 aa22 h22 hi22 hI22 ih22 => ?_) 0 () _ (by omega) (⟨rfl, Nat.zero_le _⟩)
        show J _ _ _ _ _ [some (pR (some 158)), some (pI (nI s)), some (pI (nI (aN A))), some (pI (nI (dv (dr s) - sm (fun w => aP A 1 w 0) i22))), some (pI (nI i22)), none] _ _ h22
        obtain ⟨hI5, hI6⟩ := hI22
        subst hI5
        have ub := hW0.x hi22
        have us : sm (fun w => aP A 1 w 0) (i22 + 1) = sm (fun w => aP A 1 w 0) i22 + aP A 1 i22 0 := rfl
        refine J_iload_n dX10_begin__76 rfl ?_
        refine J_aload_n dX10_begin__77 rfl ?_
        refine J_iload dX10_begin__78 rfl ?_
        refine J_cVI (ci := 10) (c := 158) (as := [pI (nI i22)]) (st := [pI (nI (dv (dr s) - sm (fun w => aP A 1 w 0) i22))]) dX10_begin__80 lX10_240 okX10_weight vX10_weight s158 (by decide) rfl rfl rfl (Nat.le_of_ble_eq_true rfl) ⟨Nat.le_of_ble_eq_true rfl, Nat.le_of_ble_eq_true rfl⟩ CR.f (c_X10_weight hG (by omega) ((F2.i (by decide) (by decide) (by decide) (by decide) (by decide)).trans (show _ = nI (aP A 1 i22 0) from hM.x hi22))) (fun vq4 gq4 eq4 => ?_)
        obtain ⟨rfl, fq4⟩ := eq4
        rw [fq4]
        refine J_icmp_ltN dX10_begin__83 (by omega) (by omega) (fun c5 => ?_) (fun c5 => ?_)
        · refine J_aload_n dX10_begin__101 rfl ?_
          refine J_getR (r := some 184) dX10_begin__102 fX10_95 s158 (fun _ => rfl) (g158_48 hG) ?_
          refine J_iconstN (n := 0) dX10_begin__105 ?_
          refine J_iconstN (n := 1) dX10_begin__106 ?_
          refine J_iastN dX10_begin__107 s184 (by decide) (by omega) ?_
          refine J_aload_n dX10_begin__108 rfl ?_
          refine J_getR (r := some 184) dX10_begin__109 fX10_95 s158 (fun _ => rfl) ((xRI).trans (g158_48 hG)) ?_
          refine J_iconstN (n := 1) dX10_begin__112 ?_
          refine J_iload dX10_begin__113 rfl ?_
          refine J_iastN dX10_begin__115 s184 (by decide) (by omega) ?_
          refine J_aload_n dX10_begin__116 rfl ?_
          refine J_getR (r := some 184) dX10_begin__117 fX10_95 s158 (fun _ => rfl) ((xRI).trans ((xRI).trans (g158_48 hG))) ?_
          refine J_iconstN (n := 3) dX10_begin__120 ?_
          refine J_iconst (x := -1) dX10_begin__121 (by decide) ?_
          refine J_iastN dX10_begin__122 s184 (by decide) (by omega) ?_
          refine J_iconstN (n := 0) dX10_begin__123 ?_
          refine J_istore (L' := [some (pR (some 158)), some (pI (nI s)), some (pI (nI (aN A))), some (pI (nI (dv (dr s) - sm (fun w => aP A 1 w 0) i22))), some (pI (nI i22)), some (pI (nI 0))]) dX10_begin__124 (by decide) rfl ?_
          refine J_drop (L' := [some (pR (some 158)), some (pI (nI s)), some (pI (nI (aN A))), none, some (pI (nI i22)), some (pI (nI 0))]) 3 rfl ?_
          refine J_L (L' := [some (pR (some 158)), some (pI (nI s)), some (pI (nI (aN A))), none, some (pI (nI i22)), some (pI (nI 0))]) rfl ?_
          generalize hg3 : sI (sI (sI (g2) 184 0 (nI 1)) 184 1 (nI i22)) 184 3 ((-1)) = g3
          have F3 : FRm 0 g1 g3 := by rw [← hg3]; exact ((F2.tr (FRm.w (by decide) (by decide))).tr (FRm.w (by decide) (by decide))).tr (FRm.w (by decide) (by decide))
          have z0 : g3.1 184 0 = nI 1 := by rw [← hg3]; exact (rI_k (by decide)).trans ((rI_k (by decide)).trans rI_s)
          have z1 : g3.1 184 1 = nI i22 := by rw [← hg3]; exact (rI_k (by decide)).trans rI_s
          have z3 : g3.1 184 3 = -1 := by rw [← hg3]; exact rI_s
          have zo : ∀ j, j ≠ 0 → j ≠ 1 → j ≠ 3 → j < 32 → g3.1 184 j = nI 0 := fun j h0 h1 h3 hj => by rw [← hg3]; exact (rI_k h3).trans ((rI_k h1).trans ((rI_k h0).trans (g2z j hj)))
          have zs : g3.2.1 185 0 = lN (dr s) := by rw [← hg3]; exact g2s
          have hG3 := F3.g hG1
          have hfk : fk (fun w => aP A 1 w 0) (dv (dr s)) (aP A 0 2 0 - 1) = i22 := fk_at hI6 _ (by omega) (fun _ => by omega)
          refine J_forI (α := Unit) (L := fun i33 aa33 => [some (pR (some 158)), some (pI (nI s)), some (pI (nI (aN A))), none, some (pI (nI i22)), some (pI (nI i33))]) (fun i33 aa33 h33 => (∀ t, t < i33 → h33.1 184 (4 + t) = nI (rq (aT A) t) ∧ h33.1 184 (8 + t) = nI (rq (aT A) t) ∧ h33.1 184 (28 + t) = hlp 0) ∧ (∀ j, (j < 4 ∨ (12 ≤ j ∧ j < 28)) → h33.1 184 j = g3.1 184 j) ∧ (∀ j, 32 ≤ j → h33.1 184 j = g3.1 184 j) ∧ Fr 184 184 g3 h33) (e := aP A 0 3 0) (fun aa33 h33 hI33 => ?_) (fun i33 aa33 h33 hi33 hI33 ih33 => ?_) 0 (()) _ (by omega) (⟨fun j hj => absurd hj (Nat.not_lt_zero j), fun _ _ => rfl, fun _ _ => rfl, Fr.rf⟩)
          · show J _ _ _ _ _ [some (pR (some 158)), some (pI (nI s)), some (pI (nI (aN A))), none, some (pI (nI i22)), some (pI (nI (aP A 0 3 0)))] _ _ h33
            obtain ⟨hJ2, hJ3, hJ4, hJ5⟩ := hI33
            have hG := hJ5.g hG3
            have F4 : FRm 0 g1 h33 := F3.tr (FRm.c hJ5 (fun j hj => hJ4 j (by omega)))
            refine J_iload dX10_begin__126 rfl ?_
            refine J_aload_n dX10_begin__128 rfl ?_
            refine J_getR (r := some 160) dX10_begin__129 fX10_17 s158 (fun _ => rfl) (g158_12 hG) ?_
            refine J_iconstN (n := 3) dX10_begin__132 ?_
            refine J_ialdN dX10_begin__133 s160 (by decide) (by omega) ?_
            refine J_cvI (((F4.i (by decide) (by decide) (by decide) (by decide) (by decide)).trans (show _ = nI (aP A 0 3 0) from hM.nm (k := 3) (by decide)))) ?_
            refine J_icmp_geN dX10_begin__134 (by omega) (by omega) (fun c6 => ?_) (fun c6 => ?_)
            · refine J_iload dX10_begin__187 rfl ?_
              exact J_retI dX10_begin__189 rfl ⟨congrArg nI hfk.symm, MI.run hM bT (r0 := 0) (R := bgR (aP A) s) (W := bgW (aT A)) (s := dr s) F4 (fun _ => ⟨⟨(hJ3 1 (by decide)).trans (z1.trans (congrArg nI hfk.symm)), (hJ3 2 (by decide)).trans (zo 2 (by decide) (by decide) (by decide) (by decide)), (hJ3 3 (by decide)).trans z3, fun t ht => ⟨fun i hi => by
                have ht4 : t < 4 := Nat.lt_of_lt_of_le ht bT
                rcases (show i = 0 ∨ i = 1 ∨ i = 2 ∨ i = 3 ∨ i = 4 ∨ i = 5 by omega) with rfl | rfl | rfl | rfl | rfl | rfl
                · exact (hJ2 t ht).2.1
                · exact (hJ3 _ (by omega)).trans (zo _ (by omega) (by omega) (by omega) (by omega))
                · exact (hJ3 _ (by omega)).trans (zo _ (by omega) (by omega) (by omega) (by omega))
                · exact (hJ3 _ (by omega)).trans (zo _ (by omega) (by omega) (by omega) (by omega))
                · exact (hJ3 _ (by omega)).trans (zo _ (by omega) (by omega) (by omega) (by omega))
                · exact (hJ2 t ht).2.2, (hJ2 t ht).1⟩⟩, (hJ5.l (by decide)).trans zs, (hJ3 0 (by decide)).trans z0⟩) (fun _ => (hJ3 0 (by decide)).trans z0) (fun k hk => absurd hk (by omega)), hF.tr F4.fr⟩
            · exact (show False by omega).elim
          · show J _ _ _ _ _ [some (pR (some 158)), some (pI (nI s)), some (pI (nI (aN A))), none, some (pI (nI i22)), some (pI (nI i33))] _ _ h33
            obtain ⟨hJ2, hJ3, hJ4, hJ5⟩ := hI33
            have hG := hJ5.g hG3
            have F4 : FRm 0 g1 h33 := F3.tr (FRm.c hJ5 (fun j hj => hJ4 j (by omega)))
            have gt : ∀ j, g3.1 179 j = g1.1 179 j := fun j => by rw [← hg3, e2]; exact (rI_c (by decide)).trans ((rI_c (by decide)).trans ((rI_c (by decide)).trans (hI4.i (by decide))))
            refine J_iload dX10_begin__126 rfl ?_
            refine J_aload_n dX10_begin__128 rfl ?_
            refine J_getR (r := some 160) dX10_begin__129 fX10_17 s158 (fun _ => rfl) (g158_12 hG) ?_
            refine J_iconstN (n := 3) dX10_begin__132 ?_
            refine J_ialdN dX10_begin__133 s160 (by decide) (by omega) ?_
            refine J_cvI (((F4.i (by decide) (by decide) (by decide) (by decide) (by decide)).trans (show _ = nI (aP A 0 3 0) from hM.nm (k := 3) (by decide)))) ?_
            refine J_icmp_geN dX10_begin__134 (by omega) (by omega) (fun c7 => ?_) (fun c7 => ?_)
            · exact (show False by omega).elim
            · refine J_aload_n dX10_begin__137 rfl ?_
              refine J_getR (r := some 184) dX10_begin__138 fX10_95 s158 (fun _ => rfl) (g158_48 hG) ?_
              refine J_iconstN (n := 4) dX10_begin__141 ?_
              refine J_iload dX10_begin__142 rfl ?_
              refine J_iaddN dX10_begin__144 ?_
              refine J_aload_n dX10_begin__145 rfl ?_
              refine J_getR (r := some 179) dX10_begin__146 fX10_80 s158 (fun _ => rfl) (g158_43 hG) ?_
              refine J_iload dX10_begin__149 rfl ?_
              refine J_ialdN dX10_begin__151 s179 (by decide) (by omega) ?_
              refine J_cvI ((((hJ5.i (by decide)).trans (gt i33)).trans (zr i33 (by rw [hr.1]; exact hi33)))) ?_
              refine J_iastN dX10_begin__152 s184 (by decide) (by omega) ?_
              refine J_aload_n dX10_begin__153 rfl ?_
              refine J_getR (r := some 184) dX10_begin__154 fX10_95 s158 (fun _ => rfl) ((xRI).trans (g158_48 hG)) ?_
              refine J_bipush (x := nI 8) dX10_begin__157 (by decide) ?_
              refine J_iload dX10_begin__159 rfl ?_
              refine J_iaddN dX10_begin__161 ?_
              refine J_aload_n dX10_begin__162 rfl ?_
              refine J_getR (r := some 179) dX10_begin__163 fX10_80 s158 (fun _ => rfl) ((xRI).trans (g158_43 hG)) ?_
              refine J_iload dX10_begin__166 rfl ?_
              refine J_ialdN dX10_begin__168 s179 (by decide) (by omega) ?_
              refine J_cvI ((rI_c (by decide)).trans ((((hJ5.i (by decide)).trans (gt i33)).trans (zr i33 (by rw [hr.1]; exact hi33))))) ?_
              refine J_iastN dX10_begin__169 s184 (by decide) (by omega) ?_
              refine J_aload_n dX10_begin__170 rfl ?_
              refine J_getR (r := some 184) dX10_begin__171 fX10_95 s158 (fun _ => rfl) ((xRI).trans ((xRI).trans (g158_48 hG))) ?_
              refine J_bipush (x := nI 28) dX10_begin__174 (by decide) ?_
              refine J_iload dX10_begin__176 rfl ?_
              refine J_iaddN dX10_begin__178 ?_
              refine J_iconst (x := -1) dX10_begin__179 (by decide) ?_
              refine J_iastN dX10_begin__180 s184 (by decide) (by omega) ?_
              refine J_iincN (n := 1) (L' := [some (pR (some 158)), some (pI (nI s)), some (pI (nI (aN A))), none, some (pI (nI i22)), some (pI (nI (i33 + 1)))]) dX10_begin__181 rfl (by decide) rfl ?_
              refine J_goto dX10_begin__184 ?_
              exact ih33 () _ ⟨fun t ht => by
                by_cases q : t = i33
                · subst q
                  exact ⟨(rI_k (by omega)).trans ((rI_k (by omega)).trans rI_s), (rI_k (by omega)).trans rI_s, rI_s⟩
                · have h := hJ2 t (by omega)
                  exact ⟨(rI_k (by omega)).trans ((rI_k (by omega)).trans ((rI_k (by omega)).trans h.1)), (rI_k (by omega)).trans ((rI_k (by omega)).trans ((rI_k (by omega)).trans h.2.1)), (rI_k (by omega)).trans ((rI_k (by omega)).trans ((rI_k (by omega)).trans h.2.2))⟩, fun j hj => (rI_k (by omega)).trans ((rI_k (by omega)).trans ((rI_k (by omega)).trans (hJ3 j hj))), fun j hj => (rI_k (by omega)).trans ((rI_k (by omega)).trans ((rI_k (by omega)).trans (hJ4 j hj))), ((hJ5.tr (Fr.sI (by decide) (by decide))).tr (Fr.sI (by decide) (by decide))).tr (Fr.sI (by decide) (by decide))⟩
        · refine J_iload_n dX10_begin__86 rfl ?_
          refine J_aload_n dX10_begin__87 rfl ?_
          refine J_iload dX10_begin__88 rfl ?_
          refine J_cVI (ci := 10) (c := 158) (as := [pI (nI i22)]) (st := [pI (nI (dv (dr s) - sm (fun w => aP A 1 w 0) i22))]) dX10_begin__90 lX10_240 okX10_weight vX10_weight s158 (by decide) rfl rfl rfl (Nat.le_of_ble_eq_true rfl) ⟨Nat.le_of_ble_eq_true rfl, Nat.le_of_ble_eq_true rfl⟩ CR.f (c_X10_weight hG (by omega) ((F2.i (by decide) (by decide) (by decide) (by decide) (by decide)).trans (show _ = nI (aP A 1 i22 0) from hM.x hi22))) (fun vq8 gq8 eq8 => ?_)
          obtain ⟨rfl, fq8⟩ := eq8
          rw [fq8]
          refine J_isubN dX10_begin__93 (by omega) ?_
          refine J_istore_n (L' := [some (pR (some 158)), some (pI (nI s)), some (pI (nI (aN A))), some (pI (nI (dv (dr s) - sm (fun w => aP A 1 w 0) i22 - aP A 1 i22 0))), some (pI (nI i22)), none]) dX10_begin__94 (by decide) rfl ?_
          refine J_iincN (n := 1) (L' := [some (pR (some 158)), some (pI (nI s)), some (pI (nI (aN A))), some (pI (nI (dv (dr s) - sm (fun w => aP A 1 w 0) i22 - aP A 1 i22 0))), some (pI (nI (i22 + 1))), none]) dX10_begin__95 rfl (by decide) rfl ?_
          refine J_goto dX10_begin__98 ?_
          have K := ih22 () _ ⟨rfl, by omega⟩
          rw [show dv (dr s) - sm (fun w => aP A 1 w 0) (i22 + 1) = dv (dr s) - sm (fun w => aP A 1 w 0) i22 - aP A 1 i22 0 by omega] at K
          exact K
      · show J _ _ _ _ _ [some (pR (some 158)), some (pI (nI s)), some (pI (nI (aN A))), some (pI (nI i1)), none, none] _ _ h1
        obtain ⟨hI2, hI3, hI4⟩ := hI1
        have hG := hI4.g hG1
        refine J_iload_n dX10_begin__39 rfl ?_
        refine J_bipush (x := nI 32) dX10_begin__40 (by decide) ?_
        refine J_icmp_geN dX10_begin__42 (by omega) (by omega) (fun c9 => ?_) (fun c9 => ?_)
        · exact (show False by omega).elim
        · refine J_aload_n dX10_begin__45 rfl ?_
          refine J_getR (r := some 184) dX10_begin__46 fX10_95 s158 (fun _ => rfl) (g158_48 hG) ?_
          refine J_iload_n dX10_begin__49 rfl ?_
          refine J_iconstN (n := 0) dX10_begin__50 ?_
          refine J_iastN dX10_begin__51 s184 (by decide) (by omega) ?_
          refine J_iincN (n := 1) (L' := [some (pR (some 158)), some (pI (nI s)), some (pI (nI (aN A))), some (pI (nI (i1 + 1))), none, none]) dX10_begin__52 rfl (by decide) rfl ?_
          refine J_goto dX10_begin__55 ?_
          exact ih1 () _ ⟨fun j hj => by
          by_cases q : j = i1
          · subst q; exact rI_s
          · exact (rI_k q).trans (hI2 j (by omega)), fun j hj => (rI_k (by omega)).trans (hI3 j hj), hI4.tr (Fr.sI (by decide) (by decide))⟩
    · exact absurd hr c3
  · exact (show False by omega).elim
theorem c_X10_begin__no {h : PH} {A : AS} {s : Int32} (hG : GR h.2.2) (hM : MI h A) (hW : WF A) (hno : s < 0 ∨ aP A 0 2 0 = 0 ∨ ¬ rowOk (aP A) (aT A) (aN A)) : CtI mX10_begin_ h [pR (some 158), pI s] (fun v h' => v = (if s < 0 then -2 else if aP A 0 2 0 = 0 then -4 else -1) ∧ MP h h' (eA A)) := by
  have bN := hW.1
  have bk := hW.wk
  have bc := hW.cs
  have bw := hW.wn
  have bt := hW.tn
  have bf := hW.fn
  refine Ct.of (L := [some (pR (some 158)), some (pI s), none, none, none, none]) rfl rfl (Nat.le_of_ble_eq_true rfl) rfl ?_
  refine J_aload_n dX10_begin__0 rfl ?_
  refine J_getI dX10_begin__1 fX10_110 s158 (fun _ => rfl) ?_
  refine J_cvI (hM.1.2) ?_
  refine J_istore_n (L' := [some (pR (some 158)), some (pI s), some (pI (nI (aN A))), none, none, none]) dX10_begin__4 (by decide) rfl ?_
  refine J_aload_n dX10_begin__5 rfl ?_
  refine J_iconstN (n := 0) dX10_begin__6 ?_
  refine J_putI dX10_begin__7 fX10_110 s158 rfl (vp_nar_int _) rfl (fun _ _ => rfl) ?_
  have hM : MI (sI h 158 1 (nI 0)) (eA A) := hM.emp
  have hF : Fr 158 186 h (sI h 158 1 (nI 0)) := Fr.sI (by decide) (by decide)
  generalize hg0 : sI h 158 1 (nI 0) = g0 at hM hF ⊢
  have hG : GR g0.2.2 := by rw [hF.2]; exact hG
  have hW0 := hW
  have hW : WF (eA A) := hW.emp
  refine J_iload_n dX10_begin__10 rfl ?_
  refine J_if_ge dX10_begin__11 (fun d1_ => ?_) (fun d1_ => ?_)
  · have d1 := Int32.not_lt.mpr d1_
    refine J_aload_n dX10_begin__17 rfl ?_
    refine J_cVI (ci := 10) (c := 158) (as := []) (st := []) dX10_begin__18 lX10_234 okX10_hasWinters vX10_hasWinters s158 (by decide) rfl rfl rfl (Nat.le_of_ble_eq_true rfl) ⟨Nat.le_of_ble_eq_true rfl, Nat.le_of_ble_eq_true rfl⟩ CR.f (c_X10_hasWinters (n := aP A 0 2 0) hG (hM.nm (by decide)) (by omega)) (fun vq2 gq2 eq2 => ?_)
    obtain ⟨rfl, fq2⟩ := eq2
    rw [fq2]
    refine J_if_neB dX10_begin__21 (fun d2 => ?_) (fun d2 => ?_)
    · refine J_aload_n dX10_begin__27 rfl ?_
      refine J_iload_n dX10_begin__28 rfl ?_
      refine J_cVI (ci := 10) (c := 158) (as := [pI (nI (aN A))]) (st := []) dX10_begin__29 lX10_347 okX10_readList vX10_readList s158 (by decide) rfl rfl rfl (Nat.le_of_ble_eq_true rfl) ⟨Nat.le_of_ble_eq_true rfl, Nat.le_of_ble_eq_true rfl⟩ CR.f (c_X10_readList (A := eA A) hG hM hW (by omega)) (fun v1 g1 e1 => ?_)
      obtain ⟨rfl, f1, zr⟩ := e1
      have hG := f1.g hG
      have hM := hM.mq f1.m179
      have hF := hF.tr f1.m179.fr
      refine J_cvI (y := bI (rowOk (aP A) (aT A) (aN A))) rfl ?_
      refine J_if_neB dX10_begin__32 (fun d3 => ?_) (fun d3 => ?_)
      · exact absurd d3 (hno.elim (fun z => absurd z d1) (fun z => z.elim (fun y => absurd y (by omega)) id))
      · refine J_iconst (x := -1) dX10_begin__35 (by decide) ?_
        exact J_retI dX10_begin__36 rfl ⟨by rw [if_neg d1, if_neg (by omega)], hM, hF⟩
    · refine J_bipush (x := (-4)) dX10_begin__24 (by decide) ?_
      exact J_retI dX10_begin__26 rfl ⟨by rw [if_neg d1, if_pos (by omega)], hM, hF⟩
  · have d1 := Int32.not_le.mp d1_
    refine J_bipush (x := (-2)) dX10_begin__14 (by decide) ?_
    exact J_retI dX10_begin__16 rfl ⟨(if_pos d1).symm, hM, hF⟩
theorem c_X10_begin_ {h : PH} {A : AS} {s : Int32} (hG : GR h.2.2) (hM : MI h A) (hW : WF A) : CtI mX10_begin_ h [pR (some 158), pI s] (fun v h' => v = beginA A s ∧ MP h h' (beginS A s)) := by
  by_cases hok : ¬ s < 0 ∧ 0 < aP A 0 2 0 ∧ rowOk (aP A) (aT A) (aN A)
  · obtain ⟨h1, h2, h3⟩ := id hok
    obtain ⟨s, hs, rfl⟩ := inR_of (t := s) (n := 2147483648) ⟨le_0_.mp (Int32.not_lt.mp h1), by have := Int32.toInt_lt s; omega⟩
    rw [beginA, beginS, if_neg h1, if_neg (by omega), if_pos h3, if_pos hok, cl, nI_clamp (by omega)]
    exact c_X10_begin__in hG hM hW hs h2 h3
  · have e : beginA A s = if s < 0 then -2 else if aP A 0 2 0 = 0 then -4 else -1 := by
      unfold beginA
      by_cases z : s < 0
      · rw [if_pos z, if_pos z]
      · rw [if_neg z, if_neg z]
        by_cases y : aP A 0 2 0 = 0
        · rw [if_pos y, if_pos y]
        · rw [if_neg y, if_neg y, if_neg (fun x => hok ⟨z, Nat.pos_of_ne_zero y, x⟩)]
    rw [e, beginS, if_neg hok]
    refine c_X10_begin__no hG hM hW ?_
    by_cases z : s < 0
    · exact Or.inl z
    · by_cases y : aP A 0 2 0 = 0
      · exact Or.inr (Or.inl y)
      · exact Or.inr (Or.inr (fun x => hok ⟨z, Nat.pos_of_ne_zero y, x⟩))
