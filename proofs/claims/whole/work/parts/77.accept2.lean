/-! ===== accepted tokens: the class ===== -/
theorem Rp.inc2 {h h' : PH} {d : Nat} {T : Nat → Int32} {S : PS} (a : Rp h d T S) (hO : S.1 0 2 0 ≤ 4 ∧ S.1 0 3 0 ≤ 4 ∧ S.1 0 4 0 ≤ 6) (F : ∀ c k, c ≠ d → c ≠ 88 → h'.1 c k = h.1 c k) (D : ∀ k, k ≠ 2 → h'.1 d k = h.1 d k) (v : h'.1 d 2 = nI (S.1 0 5 0 + 1)) (r : h'.2 = h.2) : Rp h' d T (incS S) := by
  have p := a.1.1.b
  obtain ⟨w4, t4, f6⟩ := hO
  obtain ⟨a1, ⟨⟨x0, x1, x2, x3, x4, x5⟩, a3, a4, a5, a6, a7, a8⟩, ⟨a9, a10⟩, a11, a12, a13⟩ := a
  refine ⟨⟨a1.1, by rw [r]; exact a1.2⟩, ⟨⟨(D 0 (by decide)).trans x0, (D 1 (by decide)).trans x1, v, (D 3 (by decide)).trans x3, (D 4 (by decide)).trans x4, (D 5 (by decide)).trans x5⟩, fun w (hw : w < S.1 0 2 0) => by rw [r]; exact a3 w hw, fun w (hw : w < S.1 0 2 0) k hk => (F _ _ (by omega) (by omega)).trans (a4 w hw k hk), fun t (ht : t < S.1 0 3 0) k hk => (F _ _ (by omega) (by omega)).trans (a5 t ht k hk), fun t (ht : t < S.1 0 3 0) w hw k hk => (F _ _ (by omega) (by omega)).trans (a6 t ht w hw k hk), fun t (ht : t < S.1 0 3 0) => ⟨(F _ _ (by omega) (by omega)).trans (a7 t ht).1, fun z => (F _ _ (by omega) (by omega)).trans ((a7 t ht).2 z)⟩, fun t (ht : t < S.1 0 4 0) k hk => (F _ _ (by omega) (by omega)).trans (a8 t ht k hk)⟩, ⟨(D 6 (by decide)).trans a9, (D 7 (by decide)).trans a10⟩, fun t (ht : t < S.1 0 3 0) w hw => (F _ _ (by omega) (by omega)).trans (a11 t ht w hw), fun t (ht : t < S.1 0 3 0) => ⟨(F _ _ (by omega) (by omega)).trans (a12 t ht).1, (F _ _ (by omega) (by omega)).trans (a12 t ht).2⟩, fun k hk i hi => ?_⟩
  have e : cntP (incS S).1 k = cntP S.1 k := by rcases hk with rfl | rfl | rfl <;> rfl
  rw [e] at hi
  exact (a13 k hk i hi).e (F _ _ (by omega) (by omega)) (F _ _ (by omega) (by omega))
theorem settl_e {S : PS} {k : Nat} {num : Nat → Nat} (hk : k < 7) : settl S k num = incS (setS S k num) := by
  have z : k = 0 ∨ k = 1 ∨ k = 2 ∨ k = 3 ∨ k = 4 ∨ k = 5 ∨ k = 6 := by omega
  rcases z with rfl | rfl | rfl | rfl | rfl | rfl | rfl <;> rfl
/-- the Reader's and its Post's cells alone; a token's own are kept -/
def Ra (d : Nat) (h h' : PH) : Prop := (∀ c, ¬ (d ≤ c ∧ c ≤ d + 42) → ¬ (88 ≤ c ∧ c ≤ 91) → h'.1 c = h.1 c ∧ h'.2.1 c = h.2.1 c) ∧ h'.2.2 = h.2.2 ∧ ∀ k, k ≠ 9 → k ≠ 10 → h'.1 88 k = h.1 88 k
theorem Ra.tr {d : Nat} {h h1 h2 : PH} (a : Ra d h h1) (b : Ra d h1 h2) : Ra d h h2 := ⟨fun c x y => ⟨(b.1 c x y).1.trans (a.1 c x y).1, (b.1 c x y).2.trans (a.1 c x y).2⟩, b.2.1.trans a.2.1, fun k x y => (b.2.2 k x y).trans (a.2.2 k x y)⟩
theorem Ra.s8 {d : Nat} {h : PH} {k : Nat} {x : Int32} (hk : k = 9 ∨ k = 10) : Ra d h (sI h 88 k x) := ⟨fun c _ y => ⟨rW_c (by omega), rfl⟩, rfl, fun j x y => rI_k (by omega)⟩
theorem Ra.s {d : Nat} {h : PH} {c k : Nat} {x : Int32} (h1 : (d ≤ c ∧ c ≤ d + 42) ∨ (88 < c ∧ c ≤ 91)) (hd : d + 42 < 88) : Ra d h (sI h c k x) := ⟨fun a _ y => ⟨rW_c (by omega), rfl⟩, rfl, fun j x y => rI_c (by omega)⟩
theorem Rs.ra {d : Nat} {h h' : PH} (a : Rs d h h') (hd : d + 42 < 88) : Ra d h h' := ⟨fun c x _ => a.1 c x, a.2, fun k _ _ => a.i (by omega)⟩
theorem due_30 : ∀ k, k < 7 → dueK k 0 = 3 → k < 2 := by decide
theorem c_X5_acceptToken {h : PH} {T : Nat → Int32} {n s d b : Nat} {σ : SG} (hG : GR h.2.2) (hR : Rt h T n) (hT : Tk h T n s) (hs : s ≤ n) (hS : Rg h d T σ) (hO : OkG σ b) (h9b : b + 1 ≤ 900) (hF : fOf σ (tkK T n s) (tkV T n s) = 0) (h0 : tkK T n s ≠ 0) : CtV mX5_acceptToken h [pR (some 88)] (fun h' => Rg h' d T (nxt σ (tkK T n s) (tkV T n s)) ∧ Ra d h h') := by
  have hn9 := hR.2.2.2
  have hge := tkE_ge (T := T) (n := n) (s := s)
  have hle := tkE_le (T := T) hs
  have ht := hR.1
  have hkb := tkK_b (T := T) (n := n) (s := s)
  have hq7 := hO.2.1
  have hpb := hS.1.1.1.b
  have hd5 := hS.1.1.2
  refine Ct.of (L := [some (pR (some 88))]) rfl rfl (Nat.le_of_ble_eq_true rfl) rfl ?_
  refine J_aload_n dX5_acceptToken_0 rfl ?_
  refine J_getI dX5_acceptToken_1 fX5_42 s88 (fun _ => rfl) ?_
  refine J_cvI (hS.2.1) ?_
  refine J_iconst (x := -1) dX5_acceptToken_4 (by decide) ?_
  refine J_icmp_ne dX5_acceptToken_5 (fun d1 => ?_) (fun d1 => ?_)
  · have hz : σ.2.1 ≠ 0 := fun y => d1 ((hlp_m1 (by omega)).mpr y)
    obtain ⟨k, ek⟩ : ∃ k, σ.2.1 = k + 1 := ⟨σ.2.1 - 1, by omega⟩
    have ek1 : σ.2.1 - 1 = k := by omega
    have hk : k < 7 := by omega
    obtain ⟨b1, b2, b3, b4, b5⟩ := hO.2.2 k ek
    obtain ⟨c1, c2, c3⟩ := fOf_in ek hF
    have hlb := lenS_b k hk
    have hc : σ.2.2.1 < 8 := by omega
    have d4 := due_4 k hk σ.2.2.1 hc
    have h9 : h.1 88 9 = nI k := hS.2.1.trans (by rw [ek]; rfl)
    have h10 := (hS.2.2.1 hz).1
    have hN := (hS.2.2.1 hz).2
    refine J_aload_n dX5_acceptToken_24 rfl ?_
    refine J_getI dX5_acceptToken_25 fX5_55 s88 (fun _ => rfl) ?_
    refine J_cvI (hT.2.2.1) ?_
    refine J_bipush (x := nI 59) dX5_acceptToken_28 (by decide) ?_
    refine J_icmp_ne dX5_acceptToken_30 (fun d2 => ?_) (fun d2 => ?_)
    · have q4 : ¬ tkK T n s = 4 := fun y => d2 ((tcd_s hkb).mpr y)
      have hcl : σ.2.2.1 < lenS k := by omega
      refine J_aload_n dX5_acceptToken_58 rfl ?_
      refine J_getR (r := some 89) dX5_acceptToken_59 fX5_18 s88 (fun _ => rfl) (g88_11 hG) ?_
      refine J_aload_n dX5_acceptToken_62 rfl ?_
      refine J_getI dX5_acceptToken_63 fX5_169 s88 (fun _ => rfl) ?_
      refine J_cvI (h10) ?_
      refine J_aload_n dX5_acceptToken_66 rfl ?_
      refine J_getI dX5_acceptToken_67 fX5_55 s88 (fun _ => rfl) ?_
      refine J_cvI (hT.2.2.1) ?_
      refine J_bipush (x := nI 110) dX5_acceptToken_70 (by decide) ?_
      refine J_icmp_ne dX5_acceptToken_72 (fun d3 => ?_) (fun d3 => ?_)
      · have q3 : ¬ tkK T n s = 3 := fun y => d3 ((tcd_n hkb).mpr y)
        have d01 : ∀ k, k < 7 → ∀ c, c < 8 → dueK k c = 2 ∨ dueK k c = 3 ∨ dueK k c = 4 := by decide
        have q2 : tkK T n s = 2 := by
          have := d01 k hk σ.2.2.1 hc
          omega
        have nS := nm_S (S := σ.1) (k := k) (V := tkV T n s)
        have oS : OkS (nameS σ.1 k (tkV T n s)) b := by
          have z := hO.1
          unfold OkS at z ⊢
          rw [nS.1, nS.2]
          exact z
        refine J_aload_n dX5_acceptToken_82 rfl ?_
        refine J_cVI (ci := 5) (c := 88) (as := []) (st := [pI (nI σ.2.2.1), pR (some 89)]) dX5_acceptToken_83 lX5_218 okX5_acceptName vX5_acceptName s88 (by decide) rfl rfl rfl (Nat.le_of_ble_eq_true rfl) ⟨Nat.le_of_ble_eq_true rfl, Nat.le_of_ble_eq_true rfl⟩ CR.f (c_X5_acceptName (num := σ.2.2.2) hG hR hT hs q2 hS.1 hO.1 hk hc h9 h10 (by omega) (c3 q2) (fun z => by rcases z with rfl | rfl | rfl; exact Nat.lt_of_lt_of_le (b2 rfl) (by decide); exact Nat.lt_of_lt_of_le (b3 rfl) (by decide); exact b4 rfl)) (fun v0 g0 e0 => ?_)
        obtain ⟨e1, f1, f2, f3, f4⟩ := e0
        rw [e1]
        have hG : GR g0.2.2 := by rw [f2]; exact hG
        refine J_iastN dX5_acceptToken_86 s89 (by decide) (by omega) ?_
        refine J_aload_n dX5_acceptToken_87 rfl ?_
        refine J_dup dX5_acceptToken_88 rfl ?_
        refine J_getI dX5_acceptToken_89 fX5_169 s88 (fun _ => rfl) ?_
        refine J_cvI ((rI_c (by decide)).trans (((congrFun (f1 88 (by decide) (by decide)) 10).trans h10))) ?_
        refine J_iconstN (n := 1) dX5_acceptToken_92 ?_
        refine J_iaddN dX5_acceptToken_93 ?_
        refine J_putI dX5_acceptToken_94 fX5_169 s88 rfl (vp_nar_int _) rfl (fun _ _ => rfl) ?_
        exact J_retV dX5_acceptToken_97 rfl ⟨by show Rg _ d T (if _ then _ else if _ then _ else if _ then _ else _); rw [if_neg hz, if_neg q4, if_neg q3, ek1]; exact ⟨f3.fr oS (fun c k z => (rI_c (by omega)).trans (rI_c (by omega))) rfl, (rI_k (by decide)).trans ((rI_c (by decide)).trans ((congrFun (f1 88 (by decide) (by decide)) 9).trans hS.2.1)), fun _ => ⟨rI_s, fun i (hi : i < σ.2.2.1 + 1) => (rI_c (by decide)).trans (by by_cases y : i = σ.2.2.1; exact (by rw [y]; exact rI_s.trans (congrArg nI (upN_s (f := σ.2.2.2) (i := σ.2.2.1) (v := nameI σ.1 k σ.2.2.1 (tkV T n s))).symm)); exact (rI_k y).trans (((congrFun (f1 89 (by decide) (by decide)) i).trans (hN i (by omega))).trans (congrArg nI (upN_k (f := σ.2.2.2) (v := nameI σ.1 k σ.2.2.1 (tkV T n s)) y).symm)))⟩, fun k2 (z1 : σ.2.1 = k2 + 1) z2 _ => (by have z3 : k2 = k := (by omega); subst z3; have z4 := (f4 z2).e (h' := sI (sI g0 89 σ.2.2.1 (nI (nameI σ.1 k2 σ.2.2.1 (tkV T n s)))) 88 10 (nI (σ.2.2.1 + 1))) ((rI_c (by decide)).trans (rI_c (by decide))) ((rI_c (by decide)).trans (rI_c (by decide))); rw [show (nameS σ.1 k2 (tkV T n s)).2.1 k2 (cntP (nameS σ.1 k2 (tkV T n s)).1 k2) = tkV T n s from (by rw [nS.1, nameS, if_neg (by omega)]; exact if_pos ⟨rfl, rfl⟩), nS.1]; exact z4)⟩, ((show Ra d h g0 from ⟨fun c _ y => ⟨f1 c (by omega) (by omega), by rw [f2]⟩, by rw [f2], fun j _ _ => congrFun (f1 88 (by decide) (by decide)) j⟩).tr (Ra.s (by omega) (by omega))).tr (Ra.s8 (Or.inr rfl))⟩
      · have q3 := (tcd_n hkb).mp d3
        refine J_aload_n dX5_acceptToken_75 rfl ?_
        refine J_getI dX5_acceptToken_76 fX5_77 s88 (fun _ => rfl) ?_
        refine J_cvI ((hT.2.2.2 q3)) ?_
        refine J_goto dX5_acceptToken_79 ?_
        refine J_iastN dX5_acceptToken_86 s89 (by decide) (by omega) ?_
        refine J_aload_n dX5_acceptToken_87 rfl ?_
        refine J_dup dX5_acceptToken_88 rfl ?_
        refine J_getI dX5_acceptToken_89 fX5_169 s88 (fun _ => rfl) ?_
        refine J_cvI ((rI_c (by decide)).trans (h10)) ?_
        refine J_iconstN (n := 1) dX5_acceptToken_92 ?_
        refine J_iaddN dX5_acceptToken_93 ?_
        refine J_putI dX5_acceptToken_94 fX5_169 s88 rfl (vp_nar_int _) rfl (fun _ _ => rfl) ?_
        exact J_retV dX5_acceptToken_97 rfl ⟨by show Rg _ d T (if _ then _ else if _ then _ else if _ then _ else _); rw [if_neg hz, if_neg q4, if_pos q3]; exact ⟨hS.1.fr hO.1 (fun c k z => (rI_c (by omega)).trans (rI_c (by omega))) rfl, (rI_k (by decide)).trans ((rI_c (by decide)).trans hS.2.1), fun _ => ⟨rI_s, fun i (hi : i < σ.2.2.1 + 1) => (rI_c (by decide)).trans (by by_cases y : i = σ.2.2.1; exact (by rw [y]; exact rI_s.trans (congrArg nI (upN_s (f := σ.2.2.2) (i := σ.2.2.1) (v := tkV T n s)).symm)); exact (rI_k y).trans ((hN i (by omega)).trans (congrArg nI (upN_k (f := σ.2.2.2) (v := tkV T n s) y).symm)))⟩, fun k2 z1 z2 _ => (hS.2.2.2 k2 z1 z2 (by by_cases y : σ.2.2.1 = 0; exact absurd (due_30 k hk (by rw [← y]; omega)) (by have z3 : σ.2.1 = k2 + 1 := z1; omega); omega)).e ((rI_c (by decide)).trans (rI_c (by decide))) ((rI_c (by decide)).trans (rI_c (by decide)))⟩, (Ra.s (by omega) (by omega)).tr (Ra.s8 (Or.inr rfl))⟩
    · have q4 := (tcd_s hkb).mp d2
      have hcl : lenS k = σ.2.2.1 := by omega
      have hset := hO.1.settl h9b hk (fun i hi => b5 i (by omega)) b2 b3 b4
      refine J_aload_n dX5_acceptToken_33 rfl ?_
      refine J_cVV (ci := 5) (c := 88) (as := []) (st := []) dX5_acceptToken_34 lX5_215 okX5_settleClause vX5_settleClause s88 (by decide) rfl rfl rfl (Nat.le_of_ble_eq_true rfl) ⟨Nat.le_of_ble_eq_true rfl, Nat.le_of_ble_eq_true rfl⟩ CR.f (c_X5_settleClause (num := σ.2.2.2) hG hS.1 hO.1 hk h9 (fun i hi => hN i (by omega)) (fun i hi => b5 i (by omega)) b2 b3 b4 (fun z => hS.2.2.2 k ek z (by have y : ∀ k, k < 7 → 0 < lenS k := (by decide); have := y k hk; omega))) (fun g0 e0 => ?_)
      have hG : GR g0.2.2 := by rw [e0.2.2]; exact hG
      have hd5 := e0.1.1.2
      refine J_aload_n dX5_acceptToken_37 rfl ?_
      refine J_getR (r := some d) dX5_acceptToken_38 fX5_35 s88 (fun _ => rfl) (hd5) ?_
      refine J_dup dX5_acceptToken_41 rfl ?_
      refine J_getI dX5_acceptToken_42 fX5_120 hS.1.1.1.s (fun _ => rfl) ?_
      refine J_cvI (e0.1.2.1.1.2.2.1) ?_
      refine J_iconstN (n := 1) dX5_acceptToken_45 ?_
      refine J_iaddN dX5_acceptToken_46 ?_
      refine J_putI dX5_acceptToken_47 fX5_120 hS.1.1.1.s rfl (vp_nar_int _) rfl (fun _ _ => rfl) ?_
      refine J_aload_n dX5_acceptToken_50 rfl ?_
      refine J_iconst (x := -1) dX5_acceptToken_51 (by decide) ?_
      refine J_putI dX5_acceptToken_52 fX5_42 s88 rfl (vp_nar_int _) rfl (fun _ _ => rfl) ?_
      refine J_goto dX5_acceptToken_55 ?_
      exact J_retV dX5_acceptToken_97 rfl ⟨by show Rg _ d T (if _ then _ else if _ then _ else _); rw [if_neg hz, if_pos q4, ek1, settl_e hk]; rw [settl_e hk] at hset; exact ⟨e0.1.inc2 ⟨hset.1.1.2.2.1, hset.1.1.2.2.2.1, hset.1.1.2.2.2.2.1⟩ (fun c k z1 z2 => (rI_c z2).trans (rI_c z1)) (fun k z => (rI_c (by omega)).trans (rI_k z)) ((rI_c (by omega)).trans rI_s) rfl, rI_s, fun z => absurd rfl z, fun k z => absurd z.symm (Nat.succ_ne_zero k)⟩, ((e0.2.ra (by omega)).tr (Ra.s (by omega) (by omega))).tr (Ra.s8 (Or.inl rfl))⟩
  · have hz : σ.2.1 = 0 := (hlp_m1 (by omega)).mp d1
    have hF2 : btwF σ.1 (tkK T n s) (tkV T n s) = 0 := by
      unfold fOf at hF
      rw [if_pos hz] at hF
      exact hF
    obtain ⟨y1, y2, y3⟩ := btw_z h0 hF2
    refine J_aload_n dX5_acceptToken_8 rfl ?_
    refine J_aload_n dX5_acceptToken_9 rfl ?_
    refine J_cVI (ci := 5) (c := 88) (as := []) (st := [pR (some 88)]) dX5_acceptToken_10 lX5_98 okX5_clauseNamed vX5_clauseNamed s88 (by decide) rfl rfl rfl (Nat.le_of_ble_eq_true rfl) ⟨Nat.le_of_ble_eq_true rfl, Nat.le_of_ble_eq_true rfl⟩ CR.f (c_X5_clauseNamed hG hR hT hs) (fun vq4 gq4 eq4 => ?_)
    rw [eq4.2, eq4.1]
    refine J_putI dX5_acceptToken_13 fX5_42 s88 rfl (vp_nar_int _) rfl (fun _ _ => rfl) ?_
    refine J_aload_n dX5_acceptToken_16 rfl ?_
    refine J_iconstN (n := 0) dX5_acceptToken_17 ?_
    refine J_putI dX5_acceptToken_18 fX5_169 s88 rfl (vp_nar_int _) rfl (fun _ _ => rfl) ?_
    refine J_goto dX5_acceptToken_21 ?_
    exact J_retV dX5_acceptToken_97 rfl ⟨by rw [show nxt σ (tkK T n s) (tkV T n s) = (σ.1, kw (tkV T n s), 0, σ.2.2.2) from if_pos hz]; exact ⟨hS.1.fr hO.1 (fun c k z => (rI_c (by omega)).trans (rI_c (by omega))) rfl, ((rI_k (by decide)).trans rI_s).trans (if_pos y1), fun _ => ⟨rI_s, fun i hi => absurd hi (Nat.not_lt_zero i)⟩, fun k _ _ z => absurd z (Nat.not_lt_zero 0)⟩, (Ra.s8 (Or.inl rfl)).tr (Ra.s8 (Or.inr rfl))⟩
