/-! ===== post: the class ===== -/
theorem pRn_ok {T : Nat → Int32} {n : Nat} (hn : n ≤ 900) : ∀ f p σ, p ≤ n → n - p < f → OkG σ p → (pRn T n σ p).1.1 = 0 → OkP (pRn T n σ p).2.1
  | 0, _, _, _, h, _, _ => absurd h (Nat.not_lt_zero _)
  | f + 1, p, σ, hp, h1, hO, hz => by
    by_cases df : fOf σ (tkK T n (rn cBl T n p)) (tkV T n (rn cBl T n p)) = 0
    · by_cases h0 : tkK T n (rn cBl T n p) = 0
      · rw [pRn_end df h0]
        exact hO.1.ok (fOf_end (V := tkV T n (rn cBl T n p)) hO (by rw [h0] at df; exact df))
      · have hs : rn cBl T n p < n := by
          have := mt tkK_0.mpr h0
          omega
        have e1 := tkE_gt (T := T) hs
        have e2 := tkE_le (T := T) (Nat.le_of_lt hs)
        have e3 := rn_ge (c := cBl) (T := T) (n := n) (p := p)
        have hO2 := (hO.st (by omega) h0 tkK_b df).mo (b' := tkE T n (rn cBl T n p)) (by omega) (by omega)
        have z := pRn_go hp df h0
        rw [z] at hz ⊢
        exact pRn_ok hn f _ _ e2 (by omega) hO2 hz
    · rw [pRn_fail df] at hz
      exact absurd hz df
theorem post_ok {A : AS} (hW : WF A) (hz : (postR A).1.1 = 0) : OkP (postR A).2.1 := pRn_ok hW.1 (aN A + 1) 0 G00 (Nat.zero_le _) (by omega) OkG_0 hz
theorem WF.post {A : AS} (hW : WF A) : WF (postS A) := by
  unfold postS
  by_cases hz : (postR A).1.1 = 0
  · rw [if_pos hz]
    obtain ⟨w1, w2, w3, w4, w5, w6⟩ := hW
    exact ⟨Nat.zero_le _, w2, post_ok ⟨w1, w2, w3, w4, w5, w6⟩ hz, fun t _ => ⟨Nat.zero_le _, Nat.zero_le _⟩, ⟨show 0 < 2 by decide, w5.2⟩, fun r hr => ⟨by show 0 < 2; decide, fun y => absurd y (by show ¬ (0 = 1); decide)⟩⟩
  · rw [if_neg hz]
    obtain ⟨w1, w2, w3, w4, w5, w6⟩ := hW
    exact ⟨Nat.zero_le _, w2, w3, w4, w5, w6⟩
/-- the class holds A, the model's cells are kept -/
def XQ (h h' : PH) (A : AS) : Prop := (∃ p, XI h' p A) ∧ (∀ c, 157 < c → h'.1 c = h.1 c ∧ h'.2.1 c = h.2.1 c) ∧ GR h'.2.2
theorem XP.q {h h' : PH} {p : Nat} {A : AS} (a : XP h h' p A) (hG : GR h.2.2) : XQ h h' A := ⟨⟨p, a.1⟩, fun c hc => a.2.1 c (by omega), a.2.g hG⟩
theorem PoX.f2 {h h' : PH} {p : Nat} {P : PD} (hP : OkP P) (a : PoX h p P) (f : ∀ c, p ≤ c → c ≤ p + 42 → h'.1 c = h.1 c ∧ h'.2.1 c = h.2.1 c) : PoX h' p P := by
  obtain ⟨⟨-, -, w4, t4, f6, -⟩, -⟩ := hP
  obtain ⟨⟨a0, a1, a2, a3, a4, a5⟩, a6, a7, a8, a9, a10, a11⟩ := a
  have F : ∀ c k, p ≤ c → c ≤ p + 42 → h'.1 c k = h.1 c k := fun c k z1 z2 => congrFun (f c z1 z2).1 k
  exact ⟨⟨(F _ _ (by omega) (by omega)).trans a0, (F _ _ (by omega) (by omega)).trans a1, (F _ _ (by omega) (by omega)).trans a2, (F _ _ (by omega) (by omega)).trans a3, (F _ _ (by omega) (by omega)).trans a4, (F _ _ (by omega) (by omega)).trans a5⟩, fun w hw => (congrFun (f _ (by omega) (by omega)).2 w).trans (a6 w hw), fun w hw k hk => (F _ _ (by omega) (by omega)).trans (a7 w hw k hk), fun t ht k hk => (F _ _ (by omega) (by omega)).trans (a8 t ht k hk), fun t ht w hw k hk => (F _ _ (by omega) (by omega)).trans (a9 t ht w hw k hk), fun t ht => ⟨(F _ _ (by omega) (by omega)).trans (a10 t ht).1, fun z => (F _ _ (by omega) (by omega)).trans ((a10 t ht).2 z)⟩, fun t ht k hk => (F _ _ (by omega) (by omega)).trans (a11 t ht k hk)⟩
theorem RuX.f2 {h h' : PH} {p : Nat} {P : PD} {U : RD} (hP : OkP P) (a : RuX h p P U) (f : ∀ c, p ≤ c → c ≤ p + 42 → h'.1 c = h.1 c ∧ h'.2.1 c = h.2.1 c) : RuX h' p P U := by
  obtain ⟨⟨-, -, w4, t4, f6, -⟩, -⟩ := hP
  exact fun t ht => ⟨(congrFun (f _ (by omega) (by omega)).1 _).trans (a t ht).1, (congrFun (f _ (by omega) (by omega)).1 _).trans (a t ht).2⟩
theorem RnX.f2 {h h' : PH} {c : Nat} {P : PD} {R : Nat → Nat} {W : Nat → Nat → Nat} {s : Nat} (a : RnX h c P R W s) (f : ∀ e, c ≤ e → e ≤ c + 9 → h'.1 e = h.1 e ∧ h'.2.1 e = h.2.1 e) : RnX h' c P R W s :=
  ⟨(congrFun (f _ (by omega) (by omega)).1 _).trans a.1, fun z => ⟨(congrFun (f _ (by omega) (by omega)).1 _).trans (a.2 z).1, (congrFun (f _ (by omega) (by omega)).1 _).trans (a.2 z).2.1, (congrFun (f _ (by omega) (by omega)).1 _).trans (a.2 z).2.2.1, (congrFun (f _ (by omega) (by omega)).2 _).trans (a.2 z).2.2.2.1, fun t ht i hi => (congrFun (f _ (by omega) (by omega)).1 _).trans ((a.2 z).2.2.2.2 t ht i hi)⟩⟩
theorem IsPo.o {p : Nat} (h : IsPo p) : IsPo (47 - p) := by
  rcases h with rfl | rfl
  · exact Or.inr rfl
  · exact Or.inl rfl
theorem XI.bad {h h' : PH} {p d : Nat} {A : AS} {x y : Int32} (a : XI h p A) (hW : WF A) (hd : 47 - p = d) (f : Rf d h h') (e0 : h'.1 88 0 = x) (e1 : h'.1 88 1 = y) : XI h' p (wF A (x, y)) := by
  obtain ⟨⟨a1, a2, a3⟩, ⟨a4, a5⟩, a6, a7, -, ⟨a10, a11⟩, a12⟩ := a
  have ff : ∀ c, p ≤ c → c ≤ p + 42 → h'.1 c = h.1 c ∧ h'.2.1 c = h.2.1 c := fun c z1 z2 => f.1 c (by rcases a1 with rfl | rfl <;> omega) (by rcases a1 with rfl | rfl <;> omega)
  have hb := a1.b
  have fg : ∀ c, c < 2 ∨ 91 < c → h'.1 c = h.1 c ∧ h'.2.1 c = h.2.1 c := fun c z => f.1 c (by omega) (by omega)
  exact ⟨⟨a1, (f.2 0 2 (by decide)).trans a2, (f.2 0 3 (by decide)).trans a3⟩, ⟨fun i hi => (congrFun (fg 1 (by omega)).1 i).trans (a4 i hi), (congrFun (fg 0 (by omega)).1 1).trans a5⟩, a6.f2 hW.2.2.1 ff, a7.f2 hW.2.2.1 ff, ⟨e0, e1⟩, ⟨(congrFun (fg 103 (by omega)).1 2).trans a10, fun z t ht => (congrFun (fg 109 (by omega)).1 t).trans (a11 z t ht)⟩, fun r hr => by
    have := rcX_b hr
    exact (a12 r hr).f2 (fun e z1 z2 => fg e (by omega))⟩
theorem XI.good {h h' : PH} {p d : Nat} {A : AS} {P : PD} (a : XI h p A) (hP : OkP P) (hd : IsPo d) (hdp : 47 - d = p) (f : ∀ c k, c < 2 → h'.1 c k = h.1 c k) (o : PoX h' d P) (u : RuX h' d P (fun _ _ => 0)) (r2 : h'.2.2 0 2 = some d) (r3 : h'.2.2 0 3 = some p) (e0 : h'.1 88 0 = nI 0) (e1 : h'.1 88 1 = -1) (el : h'.1 103 2 = nI 0) (en : ∀ r, r < 4 → h'.1 (rcX r) 0 = nI 0) : XI h' d (wP (wF A (nI 0, -1)) P) := by
  obtain ⟨⟨a1, a2, a3⟩, ⟨a4, a5⟩, -⟩ := a
  exact ⟨⟨hd, r2, by rw [r3, hdp]⟩, ⟨fun i hi => (f 1 i (by decide)).trans (a4 i hi), (f 0 1 (by decide)).trans a5⟩, o, u, ⟨e0, e1⟩, ⟨el, fun z => absurd z (by show ¬ (0 = 1); decide)⟩, fun r hr => ⟨en r hr, fun z => absurd z (by show ¬ (0 = 1); decide)⟩⟩
theorem c_X9_forgetRuns {h : PH} (hG : GR h.2.2) : CtV mX9_forgetRuns h [pR (some 0)] (fun h' => h' = sI (sI (sI (sI h 117 0 (nI 0)) 128 0 (nI 0)) 138 0 (nI 0)) 148 0 (nI 0)) := by
  refine Ct.of (L := [some (pR (some 0)), none]) rfl rfl (Nat.le_of_ble_eq_true rfl) rfl ?_
  refine J_aload_n dX9_forgetRuns_0 rfl ?_
  refine J_getR (r := some 117) dX9_forgetRuns_1 fX9_62 s0 (fun _ => rfl) (g0_9 hG) ?_
  refine J_iconstN (n := 0) dX9_forgetRuns_4 ?_
  refine J_putI dX9_forgetRuns_5 fX9_95 s117 rfl rfl rfl (fun _ _ => rfl) ?_
  refine J_iconstN (n := 0) dX9_forgetRuns_8 ?_
  refine J_istore_n (L' := [some (pR (some 0)), some (pI (nI 0))]) dX9_forgetRuns_9 (by decide) rfl ?_
  refine J_iload_n dX9_forgetRuns_10 rfl ?_
  refine J_iconstN (n := 3) dX9_forgetRuns_11 ?_
  refine J_icmp_geN dX9_forgetRuns_12 (by decide) (by decide) (fun c0 => absurd c0 (by decide)) (fun c0 => ?_)
  refine J_aload_n dX9_forgetRuns_15 rfl ?_
  refine J_getR (r := some 127) dX9_forgetRuns_16 fX9_66 s0 (fun _ => rfl) ((xRI).trans (g0_10 hG)) ?_
  refine J_iload_n dX9_forgetRuns_19 rfl ?_
  refine J_aald6N (r := some 128) dX9_forgetRuns_20 s127 (by decide) (by omega) (g127_0 hG) ?_
  refine J_iconstN (n := 0) dX9_forgetRuns_21 ?_
  refine J_putI dX9_forgetRuns_22 fX9_95 s128 rfl rfl rfl (fun _ _ => rfl) ?_
  refine J_iinc (y := nI 1) (L' := [some (pR (some 0)), some (pI (nI 1))]) dX9_forgetRuns_25 rfl (by decide) (by decide) rfl ?_
  refine J_goto dX9_forgetRuns_28 ?_
  refine J_iload_n dX9_forgetRuns_10 rfl ?_
  refine J_iconstN (n := 3) dX9_forgetRuns_11 ?_
  refine J_icmp_geN dX9_forgetRuns_12 (by decide) (by decide) (fun c0 => absurd c0 (by decide)) (fun c0 => ?_)
  refine J_aload_n dX9_forgetRuns_15 rfl ?_
  refine J_getR (r := some 127) dX9_forgetRuns_16 fX9_66 s0 (fun _ => rfl) ((xRI).trans ((xRI).trans (g0_10 hG))) ?_
  refine J_iload_n dX9_forgetRuns_19 rfl ?_
  refine J_aald6N (r := some 138) dX9_forgetRuns_20 s127 (by decide) (by omega) (g127_1 hG) ?_
  refine J_iconstN (n := 0) dX9_forgetRuns_21 ?_
  refine J_putI dX9_forgetRuns_22 fX9_95 s138 rfl rfl rfl (fun _ _ => rfl) ?_
  refine J_iinc (y := nI 2) (L' := [some (pR (some 0)), some (pI (nI 2))]) dX9_forgetRuns_25 rfl (by decide) (by decide) rfl ?_
  refine J_goto dX9_forgetRuns_28 ?_
  refine J_iload_n dX9_forgetRuns_10 rfl ?_
  refine J_iconstN (n := 3) dX9_forgetRuns_11 ?_
  refine J_icmp_geN dX9_forgetRuns_12 (by decide) (by decide) (fun c0 => absurd c0 (by decide)) (fun c0 => ?_)
  refine J_aload_n dX9_forgetRuns_15 rfl ?_
  refine J_getR (r := some 127) dX9_forgetRuns_16 fX9_66 s0 (fun _ => rfl) ((xRI).trans ((xRI).trans ((xRI).trans (g0_10 hG)))) ?_
  refine J_iload_n dX9_forgetRuns_19 rfl ?_
  refine J_aald6N (r := some 148) dX9_forgetRuns_20 s127 (by decide) (by omega) (g127_2 hG) ?_
  refine J_iconstN (n := 0) dX9_forgetRuns_21 ?_
  refine J_putI dX9_forgetRuns_22 fX9_95 s148 rfl rfl rfl (fun _ _ => rfl) ?_
  refine J_iinc (y := nI 3) (L' := [some (pR (some 0)), some (pI (nI 3))]) dX9_forgetRuns_25 rfl (by decide) (by decide) rfl ?_
  refine J_goto dX9_forgetRuns_28 ?_
  refine J_iload_n dX9_forgetRuns_10 rfl ?_
  refine J_iconstN (n := 3) dX9_forgetRuns_11 ?_
  refine J_icmp_geN dX9_forgetRuns_12 (by decide) (by decide) (fun c0 => ?_) (fun c0 => absurd c0 (by decide))
  exact J_retV dX9_forgetRuns_31 rfl rfl
theorem c_X9_post {h : PH} {p : Nat} {A : AS} (hG : GR h.2.2) (hX : XI h p A) (hW : WF A) : CtI mX9_post h [pR (some 0)] (fun v h' => v = postA A ∧ XQ h h' (postS A)) := by
  have bN := hW.1
  have bk := hW.wk
  have bc := hW.cs
  have bw := hW.wn
  have bt := hW.tn
  have bf := hW.fn
  obtain ⟨d, hdp⟩ : ∃ d, 47 - p = d := ⟨_, rfl⟩
  have hd : IsPo d := by rw [← hdp]; exact hX.1.1.o
  have hpb := hX.1.1.b
  have hdb := hd.b
  have hpd : 47 - d = p := by omega
  refine Ct.of (L := [some (pR (some 0)), none, none]) rfl rfl (Nat.le_of_ble_eq_true rfl) rfl ?_
  refine J_aload_n dX9_post_0 rfl ?_
  refine J_cVI (ci := 9) (c := 0) (as := []) (st := []) dX9_post_1 lX9_74 okX9_emptyTape vX9_emptyTape s0 (by decide) rfl rfl rfl (Nat.le_of_ble_eq_true rfl) ⟨Nat.le_of_ble_eq_true rfl, Nat.le_of_ble_eq_true rfl⟩ CR.f (c_X9_emptyTape hX.2.1.2) (fun v0 g0 e0 => ?_)
  obtain ⟨rfl, e0⟩ := e0
  have hX : XI g0 p (eA A) := by rw [e0]; exact hX.emp hW
  have hG : GR g0.2.2 := by rw [e0]; exact hG
  have hF : Fr 0 157 h g0 := by rw [e0]; exact Fr.sI (by decide) (by decide)
  have hW0 := hW
  have hW : WF (eA A) := hW.emp
  have hcu := hX.cu
  have hdr : g0.2.2 0 3 = some d := by rw [← hdp]; exact hX.1.2.2
  refine J_istore_n (L' := [some (pR (some 0)), some (pI (nI (aN A))), none]) dX9_post_4 (by decide) rfl ?_
  refine J_aload_n dX9_post_5 rfl ?_
  refine J_getR (r := some d) dX9_post_6 fX9_24 s0 (fun _ => rfl) (hdr) ?_
  refine J_cVV (ci := 4) (c := d) (as := []) (st := []) dX9_post_9 lX9_78 okX4_clear vX4_clear hd.s (by decide) rfl rfl rfl (Nat.le_of_ble_eq_true rfl) ⟨Nat.le_of_ble_eq_true rfl, Nat.le_of_ble_eq_true rfl⟩ CR.f (c_X4_clear hd) (fun g1 y0 => ?_)
  obtain ⟨y1, y2, y3⟩ := y0
  have hG : GR g1.2.2 := by rw [y2]; exact hG
  have hdr : g1.2.2 0 3 = some d := by rw [y2]; exact hdr
  refine J_aload_n dX9_post_12 rfl ?_
  refine J_getR (r := some 88) dX9_post_13 fX9_30 s0 (fun _ => rfl) (g0_4 hG) ?_
  refine J_aload_n dX9_post_16 rfl ?_
  refine J_getR (r := some 1) dX9_post_17 fX9_9 s0 (fun _ => rfl) (g0_0 hG) ?_
  refine J_iload_n dX9_post_20 rfl ?_
  refine J_aload_n dX9_post_21 rfl ?_
  refine J_getR (r := some d) dX9_post_22 fX9_24 s0 (fun _ => rfl) (hdr) ?_
  refine J_cVI (ci := 5) (c := 88) (as := [pR (some 1), pI (nI (aN A)), pR (some d)]) (st := []) dX9_post_25 lX9_81 okX5_reads vX5_reads s88 (by decide) rfl rfl rfl (Nat.le_of_ble_eq_true rfl) ⟨Nat.le_of_ble_eq_true rfl, Nat.le_of_ble_eq_true rfl⟩ CR.f (c_X5_reads (T := aT A) (n := aN A) hG hd bN (fun i hi => (congrFun (y1 1 (by omega)) i).trans (hX.2.1.1 i hi)) y3) (fun v2 g2 x0 => ?_)
  obtain ⟨rfl, x1, x2, x3, x4, hG⟩ := x0
  have F2 : Rf d g0 g2 := ⟨fun c z1 z2 => ⟨(x4.1 c z1 z2).1.trans (y1 c (by omega)), (x4.1 c z1 z2).2.trans (by rw [y2])⟩, fun c k z => (x4.2 c k z).trans (by rw [y2])⟩
  have hdr : g2.2.2 0 3 = some d := (x4.2 0 3 (by decide)).trans hdr
  have hcu : g2.2.2 0 2 = some p := (F2.2 0 2 (by decide)).trans hcu
  refine J_if_neB dX9_post_28 (fun dz => ?_) (fun dz => ?_)
  · refine J_aload_n dX9_post_33 rfl ?_
    refine J_getR (r := some p) dX9_post_34 fX9_20 s0 (fun _ => rfl) (hcu) ?_
    refine J_astore_n (L' := [some (pR (some 0)), some (pI (nI (aN A))), some (pR (some p))]) dX9_post_37 (by decide) rfl ?_
    refine J_aload_n dX9_post_38 rfl ?_
    refine J_aload_n dX9_post_39 rfl ?_
    refine J_getR (r := some d) dX9_post_40 fX9_24 s0 (fun _ => rfl) (hdr) ?_
    refine J_putR dX9_post_43 fX9_20 s0 rfl (Or.inl ⟨_, rfl⟩) ?_
    refine J_aload_n dX9_post_46 rfl ?_
    refine J_aload_n dX9_post_47 rfl ?_
    refine J_putR dX9_post_48 fX9_24 s0 rfl (Or.inl ⟨_, rfl⟩) ?_
    refine J_aload_n dX9_post_51 rfl ?_
    obtain ⟨u1, u2⟩ := x3 dz
    have hG3 : GR (sR (sR g2 0 2 (some d)) 0 3 (some p)).2.2 := GR_up (h := sR g2 0 2 (some d)) (GR_up (h := g2) hG (by decide +kernel)) (by decide +kernel)
    refine J_cVV (ci := 9) (c := 0) (as := []) (st := []) dX9_post_52 lX9_85 okX9_forgetRuns vX9_forgetRuns s0 (by decide) rfl rfl rfl (Nat.le_of_ble_eq_true rfl) ⟨Nat.le_of_ble_eq_true rfl, Nat.le_of_ble_eq_true rfl⟩ CR.f (c_X9_forgetRuns hG3) (fun g3 e3 => ?_)
    rw [e3]
    refine J_aload_n dX9_post_55 rfl ?_
    refine J_getR (r := some 103) dX9_post_56 fX9_51 s0 (fun _ => rfl) ((xRI).trans ((xRI).trans ((xRI).trans ((xRI).trans ((rR_k (by decide)).trans ((rR_k (by decide)).trans (g0_7 hG))))))) ?_
    refine J_iconstN (n := 0) dX9_post_59 ?_
    refine J_putI dX9_post_60 fX9_88 s103 rfl rfl rfl (fun _ _ => rfl) ?_
    refine J_aload_n dX9_post_63 rfl ?_
    refine J_getR (r := some d) dX9_post_64 fX9_20 s0 (fun _ => rfl) ((xRI).trans ((xRI).trans ((xRI).trans ((xRI).trans ((xRI).trans ((rR_k (by decide)).trans (rR_s))))))) ?_
    refine J_getI dX9_post_67 fX9_92 hd.s (fun _ => rfl) ?_
    refine J_cvI ((rI_c (by omega)).trans ((rI_c (by omega)).trans ((rI_c (by omega)).trans ((rI_c (by omega)).trans ((rI_c (by omega)).trans ((xIR).trans ((xIR).trans (u1.2.1.1.2.2.1)))))))) ?_
    exact J_retI dX9_post_70 rfl ⟨(if_pos dz).symm, ⟨d, by rw [show postS A = wP (wF (eA A) (nI 0, -1)) (pRn (aT A) (aN A) G00 0).2.1 from if_pos dz]; exact hX.good u2 hd hpd (fun c k z => (congrFun ((rW_c (by omega)).trans ((rW_c (by omega)).trans ((rW_c (by omega)).trans ((rW_c (by omega)).trans (rW_c (by omega)))))) k).trans (congrFun (F2.1 c (by omega) (by omega)).1 k)) (u1.2.1.f2 u2 (fun c z1 z2 => ⟨(rW_c (by omega)).trans ((rW_c (by omega)).trans ((rW_c (by omega)).trans ((rW_c (by omega)).trans (rW_c (by omega))))), rfl⟩)) (u1.2.2.2.2.1.f2 u2 (fun c z1 z2 => ⟨(rW_c (by omega)).trans ((rW_c (by omega)).trans ((rW_c (by omega)).trans ((rW_c (by omega)).trans (rW_c (by omega))))), rfl⟩)) ((xRI).trans ((xRI).trans ((xRI).trans ((xRI).trans ((xRI).trans ((rR_k (by decide)).trans (rR_s))))))) ((xRI).trans ((xRI).trans ((xRI).trans ((xRI).trans ((xRI).trans (rR_s)))))) ((congrFun ((rW_c (by omega)).trans ((rW_c (by omega)).trans ((rW_c (by omega)).trans ((rW_c (by omega)).trans (rW_c (by omega)))))) 0).trans (x1.trans (by rw [dz]))) ((congrFun ((rW_c (by omega)).trans ((rW_c (by omega)).trans ((rW_c (by omega)).trans ((rW_c (by omega)).trans (rW_c (by omega)))))) 1).trans (x2.trans (if_pos dz))) rI_s (all4 ((rI_c (by decide)).trans ((rI_c (by decide)).trans ((rI_c (by decide)).trans ((rI_c (by decide)).trans (rI_s))))) ((rI_c (by decide)).trans ((rI_c (by decide)).trans ((rI_c (by decide)).trans (rI_s)))) ((rI_c (by decide)).trans ((rI_c (by decide)).trans (rI_s))) ((rI_c (by decide)).trans (rI_s)))⟩, fun c hc => ⟨((rW_c (by omega)).trans ((rW_c (by omega)).trans ((rW_c (by omega)).trans ((rW_c (by omega)).trans (rW_c (by omega)))))).trans ((F2.1 c (by omega) (by omega)).1.trans (hF.1 c (by omega)).1), (F2.1 c (by omega) (by omega)).2.trans (hF.1 c (by omega)).2⟩, hG3⟩
  · refine J_iconst (x := -1) dX9_post_31 (by decide) ?_
    exact J_retI dX9_post_32 rfl ⟨(if_neg dz).symm, ⟨p, by rw [show postS A = wF (eA A) (nI (pRn (aT A) (aN A) G00 0).1.1, nI (pRn (aT A) (aN A) G00 0).1.2) from if_neg dz]; exact hX.bad hW hdp F2 x1 (x2.trans (if_neg dz))⟩, fun c hc => ⟨(F2.1 c (by omega) (by omega)).1.trans (hF.1 c (by omega)).1, (F2.1 c (by omega) (by omega)).2.trans (hF.1 c (by omega)).2⟩, hG⟩
