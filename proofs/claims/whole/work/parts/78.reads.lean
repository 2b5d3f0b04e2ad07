/-! ===== the text is read: the class ===== -/
theorem knF_b {x : Nat} : knF x ≤ 7 := by unfold knF; split <;> omega
theorem kwFt_b {S : PS} {c : Nat} : kwFt S c ≤ 7 := by
  unfold kwFt
  (repeat' split) <;> omega
theorem btwF_b {S : PS} {K V : Nat} : btwF S K V ≤ 7 := by
  unfold btwF
  split
  · split <;> omega
  · split
    · exact kwFt_b
    · omega
theorem numF_b {k c V : Nat} {num : Nat → Nat} : numF k c V num ≤ 7 := by
  unfold numF
  (repeat' split) <;> omega
theorem nameF_b {S : PS} {k c V : Nat} {num : Nat → Nat} : nameF S k c V num ≤ 7 := by
  unfold nameF knF
  (repeat' split) <;> omega
theorem fOf_b {σ : SG} {K V : Nat} : fOf σ K V ≤ 7 := by
  unfold fOf
  split
  · exact btwF_b
  · split
    · omega
    · split
      · exact numF_b
      · split
        · exact nameF_b
        · omega
theorem fOf_end {σ : SG} {V b : Nat} (hO : OkG σ b) (h : fOf σ 0 V = 0) : wOk σ.1.1 := by
  by_cases q : σ.2.1 = 0
  · unfold fOf at h
    rw [if_pos q] at h
    by_cases w : wOk σ.1.1
    · exact w
    · rw [btw_f rfl w] at h
      exact absurd h (by decide)
  · obtain ⟨k, ek⟩ : ∃ k, σ.2.1 = k + 1 := ⟨σ.2.1 - 1, by omega⟩
    have h7 := hO.2.1
    have z := (fOf_in ek h).1
    have hl := lenS_b k (by omega)
    have hc := (hO.2.2 k ek).1
    have d01 : ∀ k, k < 7 → ∀ c, c < 8 → dueK k c = 2 ∨ dueK k c = 3 ∨ dueK k c = 4 := by decide
    have := d01 k (by omega) σ.2.2.1 (by omega)
    omega
theorem OkG.mo {σ : SG} {b b' : Nat} (a : OkG σ b) (h : b ≤ b') (h9 : b' ≤ 900) : OkG σ b' := ⟨a.1.mo h h9, a.2⟩
/-- the longs of the Post and the references are kept -/
theorem Rp.rd {h h' : PH} {d b : Nat} {T : Nat → Int32} {S : PS} (a : Rp h d T S) (hO : OkS S b) (r : Rd h h') : Rp h' d T S := by
  have p := a.1.1.b
  obtain ⟨⟨-, -, w4, t4, f6, -⟩, -⟩ := id hO.1
  have F : ∀ c k, c < 88 ∨ c = 90 ∨ c = 91 → h'.1 c k = h.1 c k := fun c k z => r.1.i (by omega)
  obtain ⟨a1, ⟨⟨x0, x1, x2, x3, x4, x5⟩, a3, a4, a5, a6, a7, a8⟩, ⟨a9, a10⟩, a11, a12, a13⟩ := a
  exact ⟨⟨a1.1, r.1.r.trans a1.2⟩, ⟨⟨(F _ _ (by omega)).trans x0, (F _ _ (by omega)).trans x1, (F _ _ (by omega)).trans x2, (F _ _ (by omega)).trans x3, (F _ _ (by omega)).trans x4, (F _ _ (by omega)).trans x5⟩, fun w hw => (r.1.l (by omega)).trans (a3 w hw), fun w hw k hk => (F _ _ (by omega)).trans (a4 w hw k hk), fun t ht k hk => (F _ _ (by omega)).trans (a5 t ht k hk), fun t ht w hw k hk => (F _ _ (by omega)).trans (a6 t ht w hw k hk), fun t ht => ⟨(F _ _ (by omega)).trans (a7 t ht).1, fun z => (F _ _ (by omega)).trans ((a7 t ht).2 z)⟩, fun t ht k hk => (F _ _ (by omega)).trans (a8 t ht k hk)⟩, ⟨(F _ _ (by omega)).trans a9, (F _ _ (by omega)).trans a10⟩, fun t ht w hw => (F _ _ (by omega)).trans (a11 t ht w hw), fun t ht => ⟨(F _ _ (by omega)).trans (a12 t ht).1, (F _ _ (by omega)).trans (a12 t ht).2⟩, fun k hk i hi => (a13 k hk i hi).e (F _ _ (by omega)) (F _ _ (by omega))⟩
theorem Rg.rd {h h' : PH} {d b : Nat} {T : Nat → Int32} {σ : SG} (a : Rg h d T σ) (hO : OkS σ.1 b) (r : Rd h h') : Rg h' d T σ :=
  ⟨a.1.rd hO r, (r.2 9 (by decide) (by decide) (by decide) (by decide)).trans a.2.1, fun z => ⟨(r.2 10 (by decide) (by decide) (by decide) (by decide)).trans (a.2.2.1 z).1, fun i hi => (r.1.i (by omega)).trans ((a.2.2.1 z).2 i hi)⟩, fun k z1 z2 z3 => (a.2.2.2 k z1 z2 z3).e (r.1.i (by omega)) (r.1.i (by omega))⟩
/-- the Reader's and its Post's cells alone -/
def Rf (d : Nat) (h h' : PH) : Prop := (∀ c, ¬ (d ≤ c ∧ c ≤ d + 42) → ¬ (88 ≤ c ∧ c ≤ 91) → h'.1 c = h.1 c ∧ h'.2.1 c = h.2.1 c) ∧ ∀ c k, c ≠ 88 → h'.2.2 c k = h.2.2 c k
theorem Rf.ra {d : Nat} {h h1 h2 : PH} (a : Rf d h h1) (b : Ra d h1 h2) : Rf d h h2 := ⟨fun c x y => ⟨(b.1 c x y).1.trans (a.1 c x y).1, (b.1 c x y).2.trans (a.1 c x y).2⟩, fun c k z => (congrFun (congrFun b.2.1 c) k).trans (a.2 c k z)⟩
theorem Rf.rd {d : Nat} {h h1 h2 : PH} (a : Rf d h h1) (b : Rd h1 h2) : Rf d h h2 := ⟨fun c x y => ⟨(b.1.1 c (by omega)).1.trans (a.1 c x y).1, (b.1.1 c (by omega)).2.trans (a.1 c x y).2⟩, fun c k z => b.1.r.trans (a.2 c k z)⟩
theorem Rf.s8 {d : Nat} {h h1 : PH} {k : Nat} {x : Int32} (a : Rf d h h1) : Rf d h (sI h1 88 k x) := ⟨fun c z y => ⟨(rW_c (by omega)).trans (a.1 c z y).1, (a.1 c z y).2⟩, a.2⟩
theorem GR_up {h : PH} {c k : Nat} {x : Option Nat} (hG : GR h.2.2) (hn : ∀ e ∈ edgesL, ¬ (e.1 = c ∧ e.2.1 = k)) : GR (sR h c k x).2.2 := fun e he => by
  have z := hn e he
  by_cases q : e.1 = c
  · have y : e.2.1 ≠ k := fun y => z ⟨q, y⟩
    rw [q, rR_k y, ← q]
    exact hG e he
  · rw [rR_c q]
    exact hG e he
theorem Rt.ra {h h' : PH} {d n : Nat} {T : Nat → Int32} (a : Rt h T n) (hd : 2 ≤ d ∧ d ≤ 45) (f : Ra d h h') : Rt h' T n := ⟨(congrFun (congrFun f.2.1 88) 2).trans a.1, fun i hi => (congrFun (f.1 1 (by omega) (by omega)).1 i).trans (a.2.1 i hi), (f.2.2 3 (by decide) (by decide)).trans a.2.2.1, a.2.2.2⟩
theorem OkG_0 : OkG G00 0 := ⟨⟨⟨⟨⟨by decide, by decide⟩, by decide, by decide, by decide, by decide, by decide⟩, fun w hw => absurd hw (Nat.not_lt_zero w), fun w hw => absurd hw (Nat.not_lt_zero w), fun w hw => absurd hw (Nat.not_lt_zero w), fun w hw => absurd hw (Nat.not_lt_zero w), fun w hw => absurd hw (Nat.not_lt_zero w), by decide, by decide, fun w hw => absurd hw (Nat.not_lt_zero w)⟩, by decide⟩, by decide, fun k z => absurd z.symm (Nat.succ_ne_zero k)⟩
/-- a Post that tells nothing -/
def Cl (h : PH) (d : Nat) : Prop := (h.1 d 0 = nI 4 ∧ h.1 d 1 = nI 40 ∧ h.1 d 2 = nI 0 ∧ h.1 d 3 = nI 0 ∧ h.1 d 4 = nI 0 ∧ h.1 d 5 = nI 0) ∧ h.1 d 6 = nI 0 ∧ h.1 d 7 = nI 0
theorem Cl.rp {h h' : PH} {d : Nat} {T : Nat → Int32} (a : Cl h d) (hd : IsPo d) (r : h'.2.2 88 5 = some d) (F : ∀ k, h'.1 d k = h.1 d k) : Rp h' d T S00 := by
  obtain ⟨⟨y0, y1, y2, y3, y4, y5⟩, y6, y7⟩ := a
  refine ⟨⟨hd, r⟩, ⟨⟨(F _).trans y0, (F _).trans y1, (F _).trans y2, (F _).trans y3, (F _).trans y4, (F _).trans y5⟩, fun w hw => absurd hw (Nat.not_lt_zero w), fun w hw => absurd hw (Nat.not_lt_zero w), fun w hw => absurd hw (Nat.not_lt_zero w), fun w hw => absurd hw (Nat.not_lt_zero w), fun w hw => absurd hw (Nat.not_lt_zero w), fun w hw => absurd hw (Nat.not_lt_zero w)⟩, ⟨(F _).trans y6, (F _).trans y7⟩, fun w hw => absurd hw (Nat.not_lt_zero w), fun w hw => absurd hw (Nat.not_lt_zero w), fun k hk i hi => ?_⟩
  have e : cntP P00 k = 0 := by rcases hk with rfl | rfl | rfl <;> rfl
  exact absurd (show i < cntP P00 k from hi) (by omega)
theorem c_X4_clear {h : PH} {d : Nat} (hd : IsPo d) : CtV mX4_clear h [pR (some d)] (fun h' => (∀ c, c ≠ d → h'.1 c = h.1 c) ∧ h'.2 = h.2 ∧ Cl h' d) := by
  refine Ct.of (L := [some (pR (some d))]) rfl rfl (Nat.le_of_ble_eq_true rfl) rfl ?_
  refine J_aload_n dX4_clear_0 rfl ?_
  refine J_iconstN (n := 4) dX4_clear_1 ?_
  refine J_putI dX4_clear_2 fX4_37 hd.s rfl (vp_nar_int _) rfl (fun _ _ => rfl) ?_
  refine J_aload_n dX4_clear_5 rfl ?_
  refine J_bipush (x := nI 40) dX4_clear_6 (by decide) ?_
  refine J_putI dX4_clear_8 fX4_41 hd.s rfl (vp_nar_int _) rfl (fun _ _ => rfl) ?_
  refine J_aload_n dX4_clear_11 rfl ?_
  refine J_iconstN (n := 0) dX4_clear_12 ?_
  refine J_putI dX4_clear_13 fX4_44 hd.s rfl (vp_nar_int _) rfl (fun _ _ => rfl) ?_
  refine J_aload_n dX4_clear_16 rfl ?_
  refine J_iconstN (n := 0) dX4_clear_17 ?_
  refine J_putI dX4_clear_18 fX4_47 hd.s rfl (vp_nar_int _) rfl (fun _ _ => rfl) ?_
  refine J_aload_n dX4_clear_21 rfl ?_
  refine J_iconstN (n := 0) dX4_clear_22 ?_
  refine J_putI dX4_clear_23 fX4_50 hd.s rfl (vp_nar_int _) rfl (fun _ _ => rfl) ?_
  refine J_aload_n dX4_clear_26 rfl ?_
  refine J_iconstN (n := 0) dX4_clear_27 ?_
  refine J_putI dX4_clear_28 fX4_53 hd.s rfl (vp_nar_int _) rfl (fun _ _ => rfl) ?_
  refine J_aload_n dX4_clear_31 rfl ?_
  refine J_iconstN (n := 0) dX4_clear_32 ?_
  refine J_putI dX4_clear_33 fX4_56 hd.s rfl rfl rfl (fun _ _ => rfl) ?_
  refine J_aload_n dX4_clear_36 rfl ?_
  refine J_iconstN (n := 0) dX4_clear_37 ?_
  refine J_putI dX4_clear_38 fX4_60 hd.s rfl rfl rfl (fun _ _ => rfl) ?_
  exact J_retV dX4_clear_41 rfl ⟨fun c z => (rW_c z).trans ((rW_c z).trans ((rW_c z).trans ((rW_c z).trans ((rW_c z).trans ((rW_c z).trans ((rW_c z).trans (rW_c z))))))), rfl, ⟨((rI_k (by decide)).trans ((rI_k (by decide)).trans ((rI_k (by decide)).trans ((rI_k (by decide)).trans ((rI_k (by decide)).trans ((rI_k (by decide)).trans ((rI_k (by decide)).trans (rI_s)))))))), ((rI_k (by decide)).trans ((rI_k (by decide)).trans ((rI_k (by decide)).trans ((rI_k (by decide)).trans ((rI_k (by decide)).trans ((rI_k (by decide)).trans (rI_s))))))), ((rI_k (by decide)).trans ((rI_k (by decide)).trans ((rI_k (by decide)).trans ((rI_k (by decide)).trans ((rI_k (by decide)).trans (rI_s)))))), ((rI_k (by decide)).trans ((rI_k (by decide)).trans ((rI_k (by decide)).trans ((rI_k (by decide)).trans (rI_s))))), ((rI_k (by decide)).trans ((rI_k (by decide)).trans ((rI_k (by decide)).trans (rI_s)))), ((rI_k (by decide)).trans ((rI_k (by decide)).trans (rI_s)))⟩, ((rI_k (by decide)).trans (rI_s)), (rI_s)⟩
theorem c_X5_reads {h : PH} {T : Nat → Int32} {n d : Nat} (hG : GR h.2.2) (hd : IsPo d) (hn9 : n ≤ 900) (hT0 : ∀ i, i < 900 → h.1 1 i = T i) (hC : Cl h d) : CtI mX5_reads h [pR (some 88), pR (some 1), pI (nI n), pR (some d)] (fun v h' => v = bI ((pRn T n G00 0).1.1 = 0) ∧ h'.1 88 0 = nI (pRn T n G00 0).1.1 ∧ h'.1 88 1 = (if (pRn T n G00 0).1.1 = 0 then -1 else nI (pRn T n G00 0).1.2) ∧ ((pRn T n G00 0).1.1 = 0 → Rp h' d T (pRn T n G00 0).2 ∧ OkP (pRn T n G00 0).2.1) ∧ Rf d h h' ∧ GR h'.2.2) := by
  have hpb := hd.b
  refine Ct.of (L := [some (pR (some 88)), some (pR (some 1)), some (pI (nI n)), some (pR (some d)), none, none]) rfl rfl (Nat.le_of_ble_eq_true rfl) rfl ?_
  refine J_aload_n dX5_reads_0 rfl ?_
  refine J_aload_n dX5_reads_1 rfl ?_
  refine J_putR dX5_reads_2 fX5_28 s88 rfl (Or.inr ⟨_, rfl⟩) ?_
  refine J_aload_n dX5_reads_5 rfl ?_
  refine J_iload_n dX5_reads_6 rfl ?_
  refine J_putI dX5_reads_7 fX5_32 s88 rfl (vp_nar_int _) rfl (fun _ _ => rfl) ?_
  refine J_aload_n dX5_reads_10 rfl ?_
  refine J_aload_n dX5_reads_11 rfl ?_
  refine J_putR dX5_reads_12 fX5_35 s88 rfl (Or.inl ⟨_, rfl⟩) ?_
  refine J_aload_n dX5_reads_15 rfl ?_
  refine J_iconstN (n := 0) dX5_reads_16 ?_
  refine J_putI dX5_reads_17 fX5_39 s88 rfl (vp_nar_int _) rfl (fun _ _ => rfl) ?_
  refine J_aload_n dX5_reads_20 rfl ?_
  refine J_iconst (x := -1) dX5_reads_21 (by decide) ?_
  refine J_putI dX5_reads_22 fX5_42 s88 rfl (vp_nar_int _) rfl (fun _ _ => rfl) ?_
  refine J_aload_n dX5_reads_25 rfl ?_
  refine J_iconstN (n := 0) dX5_reads_26 ?_
  refine J_putI dX5_reads_27 fX5_11 s88 rfl (vp_nar_int _) rfl (fun _ _ => rfl) ?_
  refine J_aload_n dX5_reads_30 rfl ?_
  refine J_iconst (x := -1) dX5_reads_31 (by decide) ?_
  refine J_putI dX5_reads_32 fX5_15 s88 rfl (vp_nar_int _) rfl (fun _ _ => rfl) ?_
  refine J_iconstN (n := 0) dX5_reads_35 ?_
  refine J_istore (L' := [some (pR (some 88)), some (pR (some 1)), some (pI (nI n)), some (pR (some d)), some (pI (nI 0)), none]) dX5_reads_36 (by decide) rfl ?_
  refine J_L (L' := [some (pR (some 88)), some (pR (some 1)), some (pI (nI n)), some (pR (some d)), some (pI (nI 0)), none]) rfl ?_
  have F0 : ∀ c k, c ≠ 88 → (sI (sI (sI (sI (sR (sI (sR (h) 88 2 (some 1)) 88 3 (nI n)) 88 5 (some d)) 88 4 (nI 0)) 88 9 ((-1))) 88 0 (nI 0)) 88 1 ((-1))).1 c k = h.1 c k := fun c k z => (rI_c z).trans ((rI_c z).trans ((rI_c z).trans ((rI_c z).trans (rI_c z))))
  refine J_forI (α := SG × Nat) (L := fun i _ => [some (pR (some 88)), some (pR (some 1)), some (pI (nI n)), some (pR (some d)), some (pI (nI i)), none]) (fun i a g => i ≤ a.2 ∧ a.2 ≤ n ∧ Rt g T n ∧ g.1 88 4 = nI a.2 ∧ Rg g d T a.1 ∧ OkG a.1 a.2 ∧ pRn T n a.1 a.2 = pRn T n G00 0 ∧ g.1 88 0 = nI 0 ∧ g.1 88 1 = -1 ∧ GR g.2.2 ∧ Rf d h g) (e := n + 1) (fun aa1 h1 hI1 => absurd (Nat.le_trans hI1.1 hI1.2.1) (Nat.not_succ_le_self n)) (fun i1 aa1 h1 hi1 hI1 ih1 => ?_) 0 (G00, 0) _ (by omega) (⟨Nat.le_refl 0, Nat.zero_le n, ⟨((xRI).trans ((xRI).trans ((xRI).trans ((xRI).trans ((rR_k (by decide)).trans ((xRI).trans (rR_s))))))), fun i hi => (F0 1 i (by decide)).trans (hT0 i hi), ((rI_k (by decide)).trans ((rI_k (by decide)).trans ((rI_k (by decide)).trans ((rI_k (by decide)).trans ((xIR).trans (rI_s)))))), hn9⟩, ((rI_k (by decide)).trans ((rI_k (by decide)).trans ((rI_k (by decide)).trans (rI_s)))), ⟨hC.rp hd ((xRI).trans ((xRI).trans ((xRI).trans ((xRI).trans (rR_s))))) (fun k => F0 d k (by omega)), ((rI_k (by decide)).trans ((rI_k (by decide)).trans (rI_s))), fun z => absurd rfl z, fun k z => absurd z.symm (Nat.succ_ne_zero k)⟩, OkG_0, rfl, ((rI_k (by decide)).trans (rI_s)), (rI_s), GR_up (h := sI (sR h 88 2 (some 1)) 88 3 (nI n)) (GR_up (h := h) hG (by decide +kernel)) (by decide +kernel), fun c z1 z2 => ⟨funext (fun k => F0 c k (by omega)), rfl⟩, fun c k z => (rR_c (h := sI (sR h 88 2 (some 1)) 88 3 (nI n)) z).trans (rR_c (h := h) z)⟩)
  show J _ _ _ _ _ [some (pR (some 88)), some (pR (some 1)), some (pI (nI n)), some (pR (some d)), some (pI (nI i1)), none] _ _ h1
  obtain ⟨ip, pn, R1, k4, G1, O1, P1, z0, z1, hG, F1⟩ := hI1
  have hs : rn cBl T n aa1.2 ≤ n := rn_le pn
  have hge := rn_ge (c := cBl) (T := T) (n := n) (p := aa1.2)
  have hkb := tkK_b (T := T) (n := n) (s := rn cBl T n aa1.2)
  have hfb := fOf_b (σ := aa1.1) (K := tkK T n (rn cBl T n aa1.2)) (V := tkV T n (rn cBl T n aa1.2))
  have hte := tkE_le (T := T) hs
  refine J_iload dX5_reads_38 rfl ?_
  refine J_iload_n dX5_reads_40 rfl ?_
  refine J_icmp_gtN dX5_reads_41 (by omega) (by omega) (fun c1 => ?_) (fun c1 => ?_)
  · exact (show False by omega).elim
  · refine J_aload_n dX5_reads_44 rfl ?_
    refine J_cVV (ci := 5) (c := 88) (as := []) (st := []) dX5_reads_45 lX5_45 okX5_readToken vX5_readToken s88 (by decide) rfl rfl rfl (Nat.le_of_ble_eq_true rfl) ⟨Nat.le_of_ble_eq_true rfl, Nat.le_of_ble_eq_true rfl⟩ CR.f (c_X5_readToken hG R1 k4 pn) (fun g1 e1 => ?_)
    obtain ⟨r1, t7, t4, t6, t8⟩ := e1
    have hT : Tk g1 T n (rn cBl T n aa1.2) := ⟨t7, t4, t6, t8⟩
    have hG := r1.1.g hG
    have R2 := R1.rd r1
    have G2 := G1.rd O1.1 r1
    have z0 := (r1.2 0 (by decide) (by decide) (by decide) (by decide)).trans z0
    have z1 := (r1.2 1 (by decide) (by decide) (by decide) (by decide)).trans z1
    refine J_aload_n dX5_reads_48 rfl ?_
    refine J_cVI (ci := 5) (c := 88) (as := []) (st := []) dX5_reads_49 lX5_48 okX5_faultOfToken vX5_faultOfToken s88 (by decide) rfl rfl rfl (Nat.le_of_ble_eq_true rfl) ⟨Nat.le_of_ble_eq_true rfl, Nat.le_of_ble_eq_true rfl⟩ CR.f (c_X5_faultOfToken hG R2 hT hs G2 O1) (fun vq2 gq2 eq2 => ?_)
    rw [eq2.2, eq2.1]
    refine J_istore (L' := [some (pR (some 88)), some (pR (some 1)), some (pI (nI n)), some (pR (some d)), some (pI (nI i1)), some (pI (nI (fOf aa1.1 (tkK T n (rn cBl T n aa1.2)) (tkV T n (rn cBl T n aa1.2)))))]) dX5_reads_52 (by decide) rfl ?_
    refine J_iload dX5_reads_54 rfl ?_
    refine J_if_eqN dX5_reads_56 (by omega) (fun df => ?_) (fun df => ?_)
    · refine J_aload_n dX5_reads_75 rfl ?_
      refine J_getI dX5_reads_76 fX5_55 s88 (fun _ => rfl) ?_
      refine J_cvI (hT.2.2.1) ?_
      refine J_if_ne dX5_reads_79 (fun dk => ?_) (fun dk => ?_)
      · refine J_aload_n dX5_reads_84 rfl ?_
        have h0 : tkK T n (rn cBl T n aa1.2) ≠ 0 := fun y => dk ((tcd_0 hkb).mpr y)
        have hsn : rn cBl T n aa1.2 < n := by
          have := mt (tkK_0 (T := T) (n := n) (s := rn cBl T n aa1.2)).mpr h0
          omega
        have htg := tkE_gt (T := T) hsn
        refine J_cVV (ci := 5) (c := 88) (as := []) (st := []) dX5_reads_85 lX5_58 okX5_acceptToken vX5_acceptToken s88 (by decide) rfl rfl rfl (Nat.le_of_ble_eq_true rfl) ⟨Nat.le_of_ble_eq_true rfl, Nat.le_of_ble_eq_true rfl⟩ CR.f (c_X5_acceptToken hG R2 hT hs G2 O1 (by omega) df h0) (fun g2 e2 => ?_)
        refine J_iincN (n := 1) (L' := [some (pR (some 88)), some (pR (some 1)), some (pI (nI n)), some (pR (some d)), some (pI (nI (i1 + 1))), some (pI (nI (fOf aa1.1 (tkK T n (rn cBl T n aa1.2)) (tkV T n (rn cBl T n aa1.2)))))]) dX5_reads_88 rfl (by decide) rfl ?_
        refine J_goto dX5_reads_91 ?_
        refine J_drop (L' := [some (pR (some 88)), some (pR (some 1)), some (pI (nI n)), some (pR (some d)), some (pI (nI (i1 + 1))), none]) 5 rfl ?_
        exact ih1 (nxt aa1.1 (tkK T n (rn cBl T n aa1.2)) (tkV T n (rn cBl T n aa1.2)), tkE T n (rn cBl T n aa1.2)) _ ⟨by show i1 + 1 ≤ tkE T n (rn cBl T n aa1.2); omega, hte, R2.ra hpb e2.2, (e2.2.2.2 4 (by decide) (by decide)).trans hT.2.1, e2.1, (O1.st (by omega) h0 hkb df).mo (by show aa1.2 + 1 ≤ tkE T n (rn cBl T n aa1.2); omega) (by show tkE T n (rn cBl T n aa1.2) ≤ 900; omega), (pRn_go pn df h0).symm.trans P1, (e2.2.2.2 0 (by decide) (by decide)).trans z0, (e2.2.2.2 1 (by decide) (by decide)).trans z1, by rw [e2.2.2.1]; exact hG, (F1.rd r1).ra e2.2⟩
      · refine J_iconstN (n := 1) dX5_reads_82 ?_
        exact J_retZ dX5_reads_83 rfl rfl (by rw [← P1, pRn_end df ((tcd_0 hkb).mp dk)]; exact ⟨bI_t rfl, z0, z1.trans (if_pos rfl).symm, fun _ => ⟨G2.1, O1.1.ok (fOf_end (V := tkV T n (rn cBl T n aa1.2)) O1 (by have y := df; rw [(tcd_0 hkb).mp dk] at y; exact y))⟩, F1.rd r1, hG⟩)
    · refine J_aload_n dX5_reads_59 rfl ?_
      refine J_iload dX5_reads_60 rfl ?_
      refine J_putI dX5_reads_62 fX5_11 s88 rfl (vp_nar_int _) rfl (fun _ _ => rfl) ?_
      refine J_aload_n dX5_reads_65 rfl ?_
      refine J_aload_n dX5_reads_66 rfl ?_
      refine J_getI dX5_reads_67 fX5_52 s88 (fun _ => rfl) ?_
      refine J_cvI ((rI_k (by decide)).trans (hT.1)) ?_
      refine J_putI dX5_reads_70 fX5_15 s88 rfl (vp_nar_int _) rfl (fun _ _ => rfl) ?_
      refine J_iconstN (n := 0) dX5_reads_73 ?_
      exact J_retZ dX5_reads_74 rfl rfl (by rw [← P1, pRn_fail df]; exact ⟨bI_f df, (rI_k (by decide)).trans rI_s, rI_s.trans (if_neg df).symm, fun z => absurd z df, (F1.rd r1).s8.s8, hG⟩)
