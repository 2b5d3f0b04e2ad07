/-! ===== draws ===== -/
/-- rows of the run, one thing alone -/
def PTt (t : Nat) (h h' : PH) : Prop := (∀ c, (c < 119 ∨ 126 < c) → h'.1 c = h.1 c) ∧ (∀ c j, 119 ≤ c → c ≤ 125 → j ≠ t → h'.1 c j = h.1 c j) ∧ h'.2 = h.2
theorem PTt.rf {t : Nat} {h : PH} : PTt t h h := ⟨fun _ _ => rfl, fun _ _ _ _ _ => rfl, rfl⟩
theorem PTt.tr {t : Nat} {h h1 h2 : PH} (a : PTt t h h1) (b : PTt t h1 h2) : PTt t h h2 := ⟨fun c x => (b.1 c x).trans (a.1 c x), fun c j x y z => (b.2.1 c j x y z).trans (a.2.1 c j x y z), b.2.2.trans a.2.2⟩
theorem PTt.s {t c : Nat} {h : PH} {x : Int32} (h1 : 119 ≤ c) (h2 : c ≤ 125) : PTt t h (sI h c t x) := ⟨fun a z => rW_c (by omega), fun a j _ _ z => by
  by_cases q : a = c
  · subst q; exact rI_k z
  · exact rI_c q, rfl⟩
theorem PTt.w {t : Nat} {h h' : PH} (f : Fr 126 126 h h') (e : h'.2 = h.2) : PTt t h h' := ⟨fun c z => (f.1 c (by omega)).1, fun c j _ _ _ => congrFun (f.1 c (by omega)).1 j, e⟩
theorem PTt.fr {t : Nat} {h h' : PH} (a : PTt t h h') : Fr 119 126 h h' := ⟨fun c z => ⟨a.1 c z, by rw [a.2.2]⟩, by rw [a.2.2]⟩
theorem wk4 {h g : PH} {k : Nat} {a b c d : Int32} (e : g = sI (sI (sI (sI h k 1 a) k 2 b) k 3 c) k 0 d) : (g.1 k 1 = a ∧ g.1 k 2 = b ∧ g.1 k 3 = c ∧ g.1 k 0 = d) ∧ Fr k k h g ∧ g.2 = h.2 := by
  subst e
  exact ⟨⟨(rI_k (by decide)).trans ((rI_k (by decide)).trans ((rI_k (by decide)).trans rI_s)), (rI_k (by decide)).trans ((rI_k (by decide)).trans rI_s), (rI_k (by decide)).trans rI_s, rI_s⟩, Fr.tr (Fr.tr (Fr.tr (Fr.sI (Nat.le_refl _) (Nat.le_refl _)) (Fr.sI (Nat.le_refl _) (Nat.le_refl _))) (Fr.sI (Nat.le_refl _) (Nat.le_refl _))) (Fr.sI (Nat.le_refl _) (Nat.le_refl _)), rfl⟩
theorem wk5 {h g : PH} {k : Nat} {a b : Int32} (e : g = sI (sI h k 4 a) k 0 b) : (g.1 k 4 = a ∧ g.1 k 0 = b ∧ ∀ j, j ≠ 4 → j ≠ 0 → g.1 k j = h.1 k j) ∧ Fr k k h g ∧ g.2 = h.2 := by
  subst e
  exact ⟨⟨(rI_k (by decide)).trans rI_s, rI_s, fun j h4 h0 => (rI_k h0).trans (rI_k h4)⟩, Fr.tr (Fr.sI (Nat.le_refl _) (Nat.le_refl _)) (Fr.sI (Nat.le_refl _) (Nat.le_refl _)), rfl⟩
theorem c_X6_drawOfTen {h : PH} {s : Nat} (h5 : h.2.1 117 5 = lN s) (hs : s < 2147483648) : CtI mX6_drawOfTen h [pR (some 117)] (fun v h' => v = nI (dv (dr s)) ∧ h' = sL h 117 5 (lN (dr s))) := by
  have hd := dr_lt s
  refine Ct.of (L := [some (pR (some 117))]) rfl rfl (Nat.le_of_ble_eq_true rfl) rfl ?_
  refine J_aload_n dX6_drawOfTen_0 rfl ?_
  refine J_ldc2 dX6_drawOfTen_1 kX6_45 ?_
  refine J_cvL (y := lN 1103515245) (by decide) ?_
  refine J_aload_n dX6_drawOfTen_4 rfl ?_
  refine J_getL dX6_drawOfTen_5 fX6_27 s117 (fun _ => rfl) ?_
  refine J_cvL (h5) ?_
  refine J_lmul dX6_drawOfTen_8 ?_
  refine J_cvL (lN_mul _ _) ?_
  refine J_ldc2 dX6_drawOfTen_9 kX6_47 ?_
  refine J_cvL (y := lN 12345) (by decide) ?_
  refine J_ladd dX6_drawOfTen_12 ?_
  refine J_cvL (lN_add _ _) ?_
  refine J_ldc2 dX6_drawOfTen_13 kX6_49 ?_
  refine J_cvL (y := lN 2147483648) (by decide) ?_
  refine J_lrem dX6_drawOfTen_16 (lN_n0 (by omega) (by omega)) ?_
  refine J_cvL (pk_lRem (by omega) (by omega) (by omega)) ?_
  refine J_cvL (y := lN (dr s)) rfl ?_
  refine J_putL dX6_drawOfTen_17 fX6_27 s117 rfl rfl ?_
  refine J_aload_n dX6_drawOfTen_20 rfl ?_
  refine J_getL dX6_drawOfTen_21 fX6_27 s117 (fun _ => rfl) ?_
  refine J_cvL (rL_s) ?_
  refine J_ldc2 dX6_drawOfTen_24 kX6_51 ?_
  refine J_cvL (y := lN 65536) (by decide) ?_
  refine J_ldiv dX6_drawOfTen_27 (lN_n0 (by omega) (by omega)) ?_
  refine J_cvL (pk_lDiv (by omega) (by omega) (by omega)) ?_
  refine J_ldc2 dX6_drawOfTen_28 kX6_53 ?_
  refine J_cvL (y := lN 10) (by decide) ?_
  refine J_lrem dX6_drawOfTen_31 (lN_n0 (by omega) (by omega)) ?_
  refine J_cvL (pk_lRem (by omega) (by omega) (by omega)) ?_
  refine J_l2i dX6_drawOfTen_32 ?_
  refine J_cvI (lN_to (by omega)) ?_
  exact J_retI dX6_drawOfTen_33 rfl ⟨rfl, rfl⟩
theorem c_X6_drawKind3 {h : PH} {r s : Nat} {u : Nat → Nat} (hsh : SHF[r]? = some (.inr (0, 3))) (hu : ∀ k, k < 3 → h.1 r k = nI (u k)) (bu : ∀ k, k < 3 → u k ≤ 10) (h5 : h.2.1 117 5 = lN s) (hs : s < 2147483648) : CtI mX6_drawKind h [pR (some 117), pR (some r), pI (nI 3)] (fun v h' => v = nI (fk u (dv (dr s)) 2) ∧ h' = sL h 117 5 (lN (dr s))) := by
  refine Ct.of (L := [some (pR (some 117)), some (pR (some r)), some (pI (nI 3)), none, none, none]) rfl rfl (Nat.le_of_ble_eq_true rfl) rfl ?_
  refine J_aload_n dX6_drawKind_0 rfl ?_
  refine J_cVI (ci := 6) (c := 117) (as := []) (st := []) dX6_drawKind_1 lX6_55 okX6_drawOfTen vX6_drawOfTen s117 (by decide) rfl rfl rfl (Nat.le_of_ble_eq_true rfl) ⟨Nat.le_of_ble_eq_true rfl, Nat.le_of_ble_eq_true rfl⟩ CR.f (c_X6_drawOfTen h5 hs) (fun v0 g0 e0 => ?_)
  obtain ⟨rfl, e0⟩ := e0
  have hdv := dv_lt (dr s)
  refine J_istore_n (L' := [some (pR (some 117)), some (pR (some r)), some (pI (nI 3)), some (pI (nI (dv (dr s)))), none, none]) dX6_drawKind_4 (by decide) rfl ?_
  refine J_iconstN (n := 0) dX6_drawKind_5 ?_
  refine J_istore (L' := [some (pR (some 117)), some (pR (some r)), some (pI (nI 3)), some (pI (nI (dv (dr s)))), some (pI (nI 0)), none]) dX6_drawKind_6 (by decide) rfl ?_
  refine J_iconstN (n := 0) dX6_drawKind_8 ?_
  refine J_istore (L' := [some (pR (some 117)), some (pR (some r)), some (pI (nI 3)), some (pI (nI (dv (dr s)))), some (pI (nI 0)), some (pI (nI 0))]) dX6_drawKind_9 (by decide) rfl ?_
  refine J_L (L' := [some (pR (some 117)), some (pR (some r)), some (pI (nI 3)), some (pI (nI (dv (dr s) - sm u 0))), some (pI (nI 0)), some (pI (nI 0))]) rfl ?_
  have gu : ∀ k, k < 3 → g0.1 r k = nI (u k) := fun k hk => by rw [e0]; exact hu k hk
  have us : ∀ k, sm u (k + 1) = sm u k + u k := fun k => rfl
  refine J_forI (α := Unit) (L := fun i1 aa1 => [some (pR (some 117)), some (pR (some r)), some (pI (nI 3)), some (pI (nI (dv (dr s) - sm u i1))), some (pI (nI i1)), some (pI (nI i1))]) (fun i1 aa1 h1 => g0 = h1 ∧ sm u i1 ≤ dv (dr s)) (e := 2) (fun aa1 h1 hI1 => ?_) (fun i1 aa1 h1 hi1 hI1 ih1 => ?_) 0 (()) _ (by omega) (⟨rfl, Nat.zero_le _⟩)
  · show J _ _ _ _ _ [some (pR (some 117)), some (pR (some r)), some (pI (nI 3)), some (pI (nI (dv (dr s) - sm u 2))), some (pI (nI 2)), some (pI (nI 2))] _ _ h1
    obtain ⟨hI2, hI3⟩ := hI1
    subst hI2
    refine J_iload dX6_drawKind_11 rfl ?_
    refine J_iload_n dX6_drawKind_13 rfl ?_
    refine J_iconstN (n := 1) dX6_drawKind_14 ?_
    refine J_isubN dX6_drawKind_15 (by omega) ?_
    refine J_icmp_geN dX6_drawKind_16 (by omega) (by omega) (fun c1 => ?_) (fun c1 => ?_)
    · refine J_iload dX6_drawKind_46 rfl ?_
      exact J_retI dX6_drawKind_48 rfl ⟨congrArg nI (fk_at hI3 2 (by decide) (fun z => absurd z (by decide))).symm, e0⟩
    · exact (show False by omega).elim
  · show J _ _ _ _ _ [some (pR (some 117)), some (pR (some r)), some (pI (nI 3)), some (pI (nI (dv (dr s) - sm u i1))), some (pI (nI i1)), some (pI (nI i1))] _ _ h1
    obtain ⟨hI2, hI3⟩ := hI1
    subst hI2
    have u1 := us i1
    have ub := bu i1 (by omega)
    refine J_iload dX6_drawKind_11 rfl ?_
    refine J_iload_n dX6_drawKind_13 rfl ?_
    refine J_iconstN (n := 1) dX6_drawKind_14 ?_
    refine J_isubN dX6_drawKind_15 (by omega) ?_
    refine J_icmp_geN dX6_drawKind_16 (by omega) (by omega) (fun c2 => ?_) (fun c2 => ?_)
    · exact (show False by omega).elim
    · refine J_iload_n dX6_drawKind_19 rfl ?_
      refine J_aload_n dX6_drawKind_20 rfl ?_
      refine J_iload dX6_drawKind_21 rfl ?_
      refine J_ialdN dX6_drawKind_23 hsh (by decide) (by omega) ?_
      refine J_cvI ((gu i1 (by omega))) ?_
      refine J_icmp_ltN dX6_drawKind_24 (by omega) (by omega) (fun c3 => ?_) (fun c3 => ?_)
      · refine J_iload dX6_drawKind_46 rfl ?_
        exact J_retI dX6_drawKind_48 rfl ⟨congrArg nI (fk_at hI3 2 (by omega) (fun _ => by omega)).symm, e0⟩
      · refine J_iload_n dX6_drawKind_27 rfl ?_
        refine J_aload_n dX6_drawKind_28 rfl ?_
        refine J_iload dX6_drawKind_29 rfl ?_
        refine J_ialdN dX6_drawKind_31 hsh (by decide) (by omega) ?_
        refine J_cvI ((gu i1 (by omega))) ?_
        refine J_isubN dX6_drawKind_32 (by omega) ?_
        refine J_istore_n (L' := [some (pR (some 117)), some (pR (some r)), some (pI (nI 3)), some (pI (nI (dv (dr s) - sm u i1 - u i1))), some (pI (nI i1)), some (pI (nI i1))]) dX6_drawKind_33 (by decide) rfl ?_
        refine J_iload dX6_drawKind_34 rfl ?_
        refine J_iconstN (n := 1) dX6_drawKind_36 ?_
        refine J_iaddN dX6_drawKind_37 ?_
        refine J_istore (L' := [some (pR (some 117)), some (pR (some r)), some (pI (nI 3)), some (pI (nI (dv (dr s) - sm u i1 - u i1))), some (pI (nI (i1 + 1))), some (pI (nI i1))]) dX6_drawKind_38 (by decide) rfl ?_
        refine J_iincN (n := 1) (L' := [some (pR (some 117)), some (pR (some r)), some (pI (nI 3)), some (pI (nI (dv (dr s) - sm u i1 - u i1))), some (pI (nI (i1 + 1))), some (pI (nI (i1 + 1)))]) dX6_drawKind_40 rfl (by decide) rfl ?_
        refine J_goto dX6_drawKind_43 ?_
        have K := ih1 () _ ⟨rfl, by omega⟩
        rw [show dv (dr s) - sm u (i1 + 1) = dv (dr s) - sm u i1 - u i1 by omega] at K
        exact K
theorem c_X6_drawKind4 {h : PH} {r s : Nat} {u : Nat → Nat} (hsh : SHF[r]? = some (.inr (0, 5))) (hu : ∀ k, k < 4 → h.1 r k = nI (u k)) (bu : ∀ k, k < 4 → u k ≤ 10) (h5 : h.2.1 117 5 = lN s) (hs : s < 2147483648) : CtI mX6_drawKind h [pR (some 117), pR (some r), pI (nI 4)] (fun v h' => v = nI (fk u (dv (dr s)) 3) ∧ h' = sL h 117 5 (lN (dr s))) := by
  refine Ct.of (L := [some (pR (some 117)), some (pR (some r)), some (pI (nI 4)), none, none, none]) rfl rfl (Nat.le_of_ble_eq_true rfl) rfl ?_
  refine J_aload_n dX6_drawKind_0 rfl ?_
  refine J_cVI (ci := 6) (c := 117) (as := []) (st := []) dX6_drawKind_1 lX6_55 okX6_drawOfTen vX6_drawOfTen s117 (by decide) rfl rfl rfl (Nat.le_of_ble_eq_true rfl) ⟨Nat.le_of_ble_eq_true rfl, Nat.le_of_ble_eq_true rfl⟩ CR.f (c_X6_drawOfTen h5 hs) (fun v0 g0 e0 => ?_)
  obtain ⟨rfl, e0⟩ := e0
  have hdv := dv_lt (dr s)
  refine J_istore_n (L' := [some (pR (some 117)), some (pR (some r)), some (pI (nI 4)), some (pI (nI (dv (dr s)))), none, none]) dX6_drawKind_4 (by decide) rfl ?_
  refine J_iconstN (n := 0) dX6_drawKind_5 ?_
  refine J_istore (L' := [some (pR (some 117)), some (pR (some r)), some (pI (nI 4)), some (pI (nI (dv (dr s)))), some (pI (nI 0)), none]) dX6_drawKind_6 (by decide) rfl ?_
  refine J_iconstN (n := 0) dX6_drawKind_8 ?_
  refine J_istore (L' := [some (pR (some 117)), some (pR (some r)), some (pI (nI 4)), some (pI (nI (dv (dr s)))), some (pI (nI 0)), some (pI (nI 0))]) dX6_drawKind_9 (by decide) rfl ?_
  refine J_L (L' := [some (pR (some 117)), some (pR (some r)), some (pI (nI 4)), some (pI (nI (dv (dr s) - sm u 0))), some (pI (nI 0)), some (pI (nI 0))]) rfl ?_
  have gu : ∀ k, k < 4 → g0.1 r k = nI (u k) := fun k hk => by rw [e0]; exact hu k hk
  have us : ∀ k, sm u (k + 1) = sm u k + u k := fun k => rfl
  refine J_forI (α := Unit) (L := fun i1 aa1 => [some (pR (some 117)), some (pR (some r)), some (pI (nI 4)), some (pI (nI (dv (dr s) - sm u i1))), some (pI (nI i1)), some (pI (nI i1))]) (fun i1 aa1 h1 => g0 = h1 ∧ sm u i1 ≤ dv (dr s)) (e := 3) (fun aa1 h1 hI1 => ?_) (fun i1 aa1 h1 hi1 hI1 ih1 => ?_) 0 (()) _ (by omega) (⟨rfl, Nat.zero_le _⟩)
  · show J _ _ _ _ _ [some (pR (some 117)), some (pR (some r)), some (pI (nI 4)), some (pI (nI (dv (dr s) - sm u 3))), some (pI (nI 3)), some (pI (nI 3))] _ _ h1
    obtain ⟨hI2, hI3⟩ := hI1
    subst hI2
    refine J_iload dX6_drawKind_11 rfl ?_
    refine J_iload_n dX6_drawKind_13 rfl ?_
    refine J_iconstN (n := 1) dX6_drawKind_14 ?_
    refine J_isubN dX6_drawKind_15 (by omega) ?_
    refine J_icmp_geN dX6_drawKind_16 (by omega) (by omega) (fun c1 => ?_) (fun c1 => ?_)
    · refine J_iload dX6_drawKind_46 rfl ?_
      exact J_retI dX6_drawKind_48 rfl ⟨congrArg nI (fk_at hI3 3 (by decide) (fun z => absurd z (by decide))).symm, e0⟩
    · exact (show False by omega).elim
  · show J _ _ _ _ _ [some (pR (some 117)), some (pR (some r)), some (pI (nI 4)), some (pI (nI (dv (dr s) - sm u i1))), some (pI (nI i1)), some (pI (nI i1))] _ _ h1
    obtain ⟨hI2, hI3⟩ := hI1
    subst hI2
    have u1 := us i1
    have ub := bu i1 (by omega)
    refine J_iload dX6_drawKind_11 rfl ?_
    refine J_iload_n dX6_drawKind_13 rfl ?_
    refine J_iconstN (n := 1) dX6_drawKind_14 ?_
    refine J_isubN dX6_drawKind_15 (by omega) ?_
    refine J_icmp_geN dX6_drawKind_16 (by omega) (by omega) (fun c2 => ?_) (fun c2 => ?_)
    · exact (show False by omega).elim
    · refine J_iload_n dX6_drawKind_19 rfl ?_
      refine J_aload_n dX6_drawKind_20 rfl ?_
      refine J_iload dX6_drawKind_21 rfl ?_
      refine J_ialdN dX6_drawKind_23 hsh (by decide) (by omega) ?_
      refine J_cvI ((gu i1 (by omega))) ?_
      refine J_icmp_ltN dX6_drawKind_24 (by omega) (by omega) (fun c3 => ?_) (fun c3 => ?_)
      · refine J_iload dX6_drawKind_46 rfl ?_
        exact J_retI dX6_drawKind_48 rfl ⟨congrArg nI (fk_at hI3 3 (by omega) (fun _ => by omega)).symm, e0⟩
      · refine J_iload_n dX6_drawKind_27 rfl ?_
        refine J_aload_n dX6_drawKind_28 rfl ?_
        refine J_iload dX6_drawKind_29 rfl ?_
        refine J_ialdN dX6_drawKind_31 hsh (by decide) (by omega) ?_
        refine J_cvI ((gu i1 (by omega))) ?_
        refine J_isubN dX6_drawKind_32 (by omega) ?_
        refine J_istore_n (L' := [some (pR (some 117)), some (pR (some r)), some (pI (nI 4)), some (pI (nI (dv (dr s) - sm u i1 - u i1))), some (pI (nI i1)), some (pI (nI i1))]) dX6_drawKind_33 (by decide) rfl ?_
        refine J_iload dX6_drawKind_34 rfl ?_
        refine J_iconstN (n := 1) dX6_drawKind_36 ?_
        refine J_iaddN dX6_drawKind_37 ?_
        refine J_istore (L' := [some (pR (some 117)), some (pR (some r)), some (pI (nI 4)), some (pI (nI (dv (dr s) - sm u i1 - u i1))), some (pI (nI (i1 + 1))), some (pI (nI i1))]) dX6_drawKind_38 (by decide) rfl ?_
        refine J_iincN (n := 1) (L' := [some (pR (some 117)), some (pR (some r)), some (pI (nI 4)), some (pI (nI (dv (dr s) - sm u i1 - u i1))), some (pI (nI (i1 + 1))), some (pI (nI (i1 + 1)))]) dX6_drawKind_40 rfl (by decide) rfl ?_
        refine J_goto dX6_drawKind_43 ?_
        have K := ih1 () _ ⟨rfl, by omega⟩
        rw [show dv (dr s) - sm u (i1 + 1) = dv (dr s) - sm u i1 - u i1 by omega] at K
        exact K
theorem c_X6_drawWinter {h : PH} {p s n : Nat} {x : Nat → Nat} (hG : GR h.2.2) (hp : IsPo p) (hn : h.1 p 3 = nI n) (h1 : 1 ≤ n) (h4 : n ≤ 4) (hx : ∀ k, k < n → h.2.1 (p + 1) k = lN (x k)) (bx : ∀ k, k < n → x k ≤ 10) (h5 : h.2.1 117 5 = lN s) (hs : s < 2147483648) : CtI mX6_drawWinter h [pR (some 117), pR (some p)] (fun v h' => v = nI (fk x (dv (dr s)) (n - 1)) ∧ h' = sL h 117 5 (lN (dr s))) := by
  have bp := hp.b
  refine Ct.of (L := [some (pR (some 117)), some (pR (some p)), none, none, none, none]) rfl rfl (Nat.le_of_ble_eq_true rfl) rfl ?_
  refine J_aload_n dX6_drawWinter_0 rfl ?_
  refine J_cVI (ci := 6) (c := 117) (as := []) (st := []) dX6_drawWinter_1 lX6_55 okX6_drawOfTen vX6_drawOfTen s117 (by decide) rfl rfl rfl (Nat.le_of_ble_eq_true rfl) ⟨Nat.le_of_ble_eq_true rfl, Nat.le_of_ble_eq_true rfl⟩ CR.f (c_X6_drawOfTen h5 hs) (fun v0 g0 e0 => ?_)
  obtain ⟨rfl, e0⟩ := e0
  have hdv := dv_lt (dr s)
  refine J_i2lN dX6_drawWinter_4 (by omega) ?_
  refine J_lstore_n (L' := [some (pR (some 117)), some (pR (some p)), some (pL (lN (dv (dr s)))), none, none, none]) dX6_drawWinter_5 (by decide) rfl ?_
  refine J_iconstN (n := 0) dX6_drawWinter_6 ?_
  refine J_istore (L' := [some (pR (some 117)), some (pR (some p)), some (pL (lN (dv (dr s)))), none, some (pI (nI 0)), none]) dX6_drawWinter_7 (by decide) rfl ?_
  refine J_iconstN (n := 0) dX6_drawWinter_9 ?_
  refine J_istore (L' := [some (pR (some 117)), some (pR (some p)), some (pL (lN (dv (dr s)))), none, some (pI (nI 0)), some (pI (nI 0))]) dX6_drawWinter_10 (by decide) rfl ?_
  refine J_L (L' := [some (pR (some 117)), some (pR (some p)), some (pL (lN (dv (dr s) - sm x 0))), none, some (pI (nI 0)), some (pI (nI 0))]) rfl ?_
  have gu : ∀ k, k < n → g0.2.1 (p + 1) k = lN (x k) := fun k hk => by rw [e0]; exact (rL_c (by omega)).trans (hx k hk)
  have gn : g0.1 p 3 = nI n := by rw [e0]; exact hn
  have hG : GR g0.2.2 := by rw [e0]; exact hG
  have us : ∀ k, sm x (k + 1) = sm x k + x k := fun k => rfl
  refine J_forI (α := Unit) (L := fun i1 aa1 => [some (pR (some 117)), some (pR (some p)), some (pL (lN (dv (dr s) - sm x i1))), none, some (pI (nI i1)), some (pI (nI i1))]) (fun i1 aa1 h1 => g0 = h1 ∧ sm x i1 ≤ dv (dr s)) (e := n - 1) (fun aa1 h1 hI1 => ?_) (fun i1 aa1 h1 hi1 hI1 ih1 => ?_) 0 (()) _ (by omega) (⟨rfl, Nat.zero_le _⟩)
  · show J _ _ _ _ _ [some (pR (some 117)), some (pR (some p)), some (pL (lN (dv (dr s) - sm x (n - 1)))), none, some (pI (nI (n - 1))), some (pI (nI (n - 1)))] _ _ h1
    obtain ⟨hI2, hI3⟩ := hI1
    subst hI2
    refine J_iload dX6_drawWinter_12 rfl ?_
    refine J_aload_n dX6_drawWinter_14 rfl ?_
    refine J_getI dX6_drawWinter_15 fX6_59 hp.s (fun _ => rfl) ?_
    refine J_cvI (gn) ?_
    refine J_iconstN (n := 1) dX6_drawWinter_18 ?_
    refine J_isubN dX6_drawWinter_19 (by omega) ?_
    refine J_icmp_geN dX6_drawWinter_20 (by omega) (by omega) (fun c1 => ?_) (fun c1 => ?_)
    · refine J_iload dX6_drawWinter_57 rfl ?_
      exact J_retI dX6_drawWinter_59 rfl ⟨congrArg nI (fk_at hI3 (n - 1) (Nat.le_refl _) (fun z => absurd z (Nat.lt_irrefl _))).symm, e0⟩
    · exact (show False by omega).elim
  · show J _ _ _ _ _ [some (pR (some 117)), some (pR (some p)), some (pL (lN (dv (dr s) - sm x i1))), none, some (pI (nI i1)), some (pI (nI i1))] _ _ h1
    obtain ⟨hI2, hI3⟩ := hI1
    subst hI2
    have u1 := us i1
    have ub := bx i1 (by omega)
    refine J_iload dX6_drawWinter_12 rfl ?_
    refine J_aload_n dX6_drawWinter_14 rfl ?_
    refine J_getI dX6_drawWinter_15 fX6_59 hp.s (fun _ => rfl) ?_
    refine J_cvI (gn) ?_
    refine J_iconstN (n := 1) dX6_drawWinter_18 ?_
    refine J_isubN dX6_drawWinter_19 (by omega) ?_
    refine J_icmp_geN dX6_drawWinter_20 (by omega) (by omega) (fun c2 => ?_) (fun c2 => ?_)
    · exact (show False by omega).elim
    · refine J_lload_n dX6_drawWinter_23 rfl ?_
      refine J_aload_n dX6_drawWinter_24 rfl ?_
      refine J_getR (r := some (p + 1)) dX6_drawWinter_25 fX6_64 hp.s (fun _ => rfl) (hp.e8 hG) ?_
      refine J_iload dX6_drawWinter_28 rfl ?_
      refine J_laldN dX6_drawWinter_30 hp.s1 (by decide) (by omega) ?_
      refine J_cvL ((gu i1 (by omega))) ?_
      refine J_lcmp dX6_drawWinter_31 ?_
      refine J_lif_lt dX6_drawWinter_32 (fun c3 => ?_) (fun c3 => ?_)
      · have c9 := (pk_lLT (by omega) (by omega)).mp c3
        refine J_iload dX6_drawWinter_57 rfl ?_
        exact J_retI dX6_drawWinter_59 rfl ⟨congrArg nI (fk_at hI3 (n - 1) (by omega) (fun _ => by omega)).symm, e0⟩
      · have c9 : ¬ dv (dr s) - sm x i1 < x i1 := fun z => c3 ((pk_lLT (by omega) (by omega)).mpr z)
        refine J_lload_n dX6_drawWinter_35 rfl ?_
        refine J_aload_n dX6_drawWinter_36 rfl ?_
        refine J_getR (r := some (p + 1)) dX6_drawWinter_37 fX6_64 hp.s (fun _ => rfl) (hp.e8 hG) ?_
        refine J_iload dX6_drawWinter_40 rfl ?_
        refine J_laldN dX6_drawWinter_42 hp.s1 (by decide) (by omega) ?_
        refine J_cvL ((gu i1 (by omega))) ?_
        refine J_lsub dX6_drawWinter_43 ?_
        refine J_cvL (lN_sub (by omega)) ?_
        refine J_lstore_n (L' := [some (pR (some 117)), some (pR (some p)), some (pL (lN (dv (dr s) - sm x i1 - x i1))), none, some (pI (nI i1)), some (pI (nI i1))]) dX6_drawWinter_44 (by decide) rfl ?_
        refine J_iload dX6_drawWinter_45 rfl ?_
        refine J_iconstN (n := 1) dX6_drawWinter_47 ?_
        refine J_iaddN dX6_drawWinter_48 ?_
        refine J_istore (L' := [some (pR (some 117)), some (pR (some p)), some (pL (lN (dv (dr s) - sm x i1 - x i1))), none, some (pI (nI (i1 + 1))), some (pI (nI i1))]) dX6_drawWinter_49 (by decide) rfl ?_
        refine J_iincN (n := 1) (L' := [some (pR (some 117)), some (pR (some p)), some (pL (lN (dv (dr s) - sm x i1 - x i1))), none, some (pI (nI (i1 + 1))), some (pI (nI (i1 + 1)))]) dX6_drawWinter_51 rfl (by decide) rfl ?_
        refine J_goto dX6_drawWinter_54 ?_
        have K := ih1 () _ ⟨rfl, by omega⟩
        rw [show dv (dr s) - sm x (i1 + 1) = dv (dr s) - sm x i1 - x i1 by omega] at K
        exact K
theorem c_X6_start {h : PH} {p s n : Nat} {x : Nat → Nat} (hG : GR h.2.2) (hp : IsPo p) (hn : h.1 p 3 = nI n) (h1 : 1 ≤ n) (h4 : n ≤ 4) (hx : ∀ k, k < n → h.2.1 (p + 1) k = lN (x k)) (bx : ∀ k, k < n → x k ≤ 10) (hs : s < 2147483648) : CtV mX6_start h [pR (some 117), pR (some p), pI (nI s)] (fun h' => (h'.1 117 0 = nI 1 ∧ h'.1 117 1 = nI (fk x (dv (dr s)) (n - 1)) ∧ h'.1 117 2 = nI 0 ∧ h'.1 117 3 = hlp 0 ∧ h'.2.1 117 5 = lN (dr s)) ∧ Fr 117 117 h h') := by
  have bp := hp.b
  refine Ct.of (L := [some (pR (some 117)), some (pR (some p)), some (pI (nI s))]) rfl rfl (Nat.le_of_ble_eq_true rfl) rfl ?_
  refine J_aload_n dX6_start_0 rfl ?_
  refine J_iconstN (n := 1) dX6_start_1 ?_
  refine J_putI dX6_start_2 fX6_9 s117 rfl rfl rfl (fun _ _ => rfl) ?_
  refine J_aload_n dX6_start_5 rfl ?_
  refine J_iload_n dX6_start_6 rfl ?_
  refine J_i2lN dX6_start_7 (by omega) ?_
  refine J_putL dX6_start_8 fX6_27 s117 rfl rfl ?_
  refine J_aload_n dX6_start_11 rfl ?_
  refine J_iconstN (n := 0) dX6_start_12 ?_
  refine J_putI dX6_start_13 fX6_31 s117 rfl (vp_nar_int _) rfl (fun _ _ => rfl) ?_
  refine J_aload_n dX6_start_16 rfl ?_
  refine J_iconst (x := -1) dX6_start_17 (by decide) ?_
  refine J_putI dX6_start_18 fX6_35 s117 rfl (vp_nar_int _) rfl (fun _ _ => rfl) ?_
  refine J_aload_n dX6_start_21 rfl ?_
  refine J_aload_n dX6_start_22 rfl ?_
  refine J_aload_n dX6_start_23 rfl ?_
  have hG1 : GR (sI (sI (sL (sI (h) 117 0 (nI 1)) 117 5 (lN s)) 117 2 (nI 0)) 117 3 ((-1))).2.2 := hG
  refine J_cVI (ci := 6) (c := 117) (as := [pR (some p)]) (st := [pR (some 117)]) dX6_start_24 lX6_38 okX6_drawWinter vX6_drawWinter s117 (by decide) rfl rfl rfl (Nat.le_of_ble_eq_true rfl) ⟨Nat.le_of_ble_eq_true rfl, Nat.le_of_ble_eq_true rfl⟩ CR.f (c_X6_drawWinter (n := n) (x := x) (s := s) hG hp ((rI_c (by omega)).trans ((rI_c (by omega)).trans ((rI_c (by omega)).trans hn))) h1 h4 (fun k hk => (rL_c (by omega)).trans (hx k hk)) bx rL_s hs) (fun v1 g1 e1 => ?_)
  obtain ⟨rfl, e1⟩ := e1
  refine J_putI dX6_start_27 fX6_42 s117 rfl (vp_nar_int _) rfl (fun _ _ => rfl) ?_
  exact J_retV dX6_start_30 rfl (by rw [e1]; exact ⟨⟨(rI_k (by decide)).trans (xIL.trans ((rI_k (by decide)).trans ((rI_k (by decide)).trans (xIL.trans rI_s)))), rI_s, (rI_k (by decide)).trans (xIL.trans ((rI_k (by decide)).trans rI_s)), (rI_k (by decide)).trans (xIL.trans rI_s), xLI.trans rL_s⟩, (((((Fr.sI (by decide) (by decide)).tr (Fr.sL (by decide) (by decide))).tr (Fr.sI (by decide) (by decide))).tr (Fr.sI (by decide) (by decide))).tr (Fr.sL (by decide) (by decide))).tr (Fr.sI (by decide) (by decide))⟩)
theorem c_X6_order {h : PH} {t q : Nat} (hG : GR h.2.2) (ht : t < 4) : CtV mX6_order h [pR (some 117), pI (nI t), pI (nI q)] (fun h' => (∀ i, i < 7 → h'.1 (117 + 2 + i) t = rwV i (if i = 0 then q else if i = 6 then q else 0)) ∧ PTt t h h') := by
  have hrn : IsRn 117 := Or.inl rfl
  have hG0 := hG
  refine Ct.of (L := [some (pR (some 117)), some (pI (nI t)), some (pI (nI q)), none]) rfl rfl (Nat.le_of_ble_eq_true rfl) rfl ?_
  refine J_iconstN (n := 0) dX6_order_0 ?_
  refine J_istore_n (L' := [some (pR (some 117)), some (pI (nI t)), some (pI (nI q)), some (pI (nI 0))]) dX6_order_1 (by decide) rfl ?_
  refine J_L (L' := [some (pR (some 117)), some (pI (nI t)), some (pI (nI q)), some (pI (nI 0))]) rfl ?_
  refine J_forI (α := Unit) (L := fun i1 aa1 => [some (pR (some 117)), some (pI (nI t)), some (pI (nI q)), some (pI (nI i1))]) (fun i1 aa1 h1 => (∀ j, j < i1 → h1.1 (117 + 2 + j) t = nI 0) ∧ PTt t h h1) (e := 7) (fun aa1 h1 hI1 => ?_) (fun i1 aa1 h1 hi1 hI1 ih1 => ?_) 0 (()) _ (by omega) (⟨fun j hj => absurd hj (Nat.not_lt_zero j), PTt.rf⟩)
  · show J _ _ _ _ _ [some (pR (some 117)), some (pI (nI t)), some (pI (nI q)), some (pI (nI 7))] _ _ h1
    obtain ⟨hI2, hI3⟩ := hI1
    have hG := hI3.fr.g hG0
    refine J_iload_n dX6_order_2 rfl ?_
    refine J_bipush (x := nI 7) dX6_order_3 (by decide) ?_
    refine J_icmp_geN dX6_order_5 (by decide) (by decide) (fun c0 => ?_) (fun c0 => absurd c0 (by decide))
    refine J_aload_n dX6_order_23 rfl ?_
    refine J_getR (r := some (117 + 1)) dX6_order_24 fX6_17 s117 (fun _ => rfl) (hrn.e4 hG) ?_
    refine J_iconstN (n := 0) dX6_order_27 ?_
    refine J_aald7N (r := some (117 + 2 + 0)) dX6_order_28 hrn.s1 (by decide) (by omega) (hrn.er hG (by omega)) ?_
    refine J_iload_n dX6_order_29 rfl ?_
    refine J_iload_n dX6_order_30 rfl ?_
    refine J_iastN dX6_order_31 (hrn.sr (by omega)) (by decide) (by omega) ?_
    refine J_aload_n dX6_order_32 rfl ?_
    refine J_getR (r := some (117 + 1)) dX6_order_33 fX6_17 s117 (fun _ => rfl) ((xRI).trans (hrn.e4 hG)) ?_
    refine J_bipush (x := nI 6) dX6_order_36 (by decide) ?_
    refine J_aald7N (r := some (117 + 2 + 6)) dX6_order_38 hrn.s1 (by decide) (by omega) (hrn.er hG (by omega)) ?_
    refine J_iload_n dX6_order_39 rfl ?_
    refine J_iload_n dX6_order_40 rfl ?_
    refine J_iastN dX6_order_41 (hrn.sr (by omega)) (by decide) (by omega) ?_
    refine J_aload_n dX6_order_42 rfl ?_
    refine J_getR (r := some (117 + 1)) dX6_order_43 fX6_17 s117 (fun _ => rfl) ((xRI).trans ((xRI).trans (hrn.e4 hG))) ?_
    refine J_iconstN (n := 5) dX6_order_46 ?_
    refine J_aald7N (r := some (117 + 2 + 5)) dX6_order_47 hrn.s1 (by decide) (by omega) (hrn.er hG (by omega)) ?_
    refine J_iload_n dX6_order_48 rfl ?_
    refine J_iconst (x := -1) dX6_order_49 (by decide) ?_
    refine J_iastN dX6_order_50 (hrn.sr (by omega)) (by decide) (by omega) ?_
    exact J_retV dX6_order_51 rfl ⟨fun i hi => by
      rcases (show i = 0 ∨ i = 1 ∨ i = 2 ∨ i = 3 ∨ i = 4 ∨ i = 5 ∨ i = 6 by omega) with rfl | rfl | rfl | rfl | rfl | rfl | rfl
      · exact (rI_c (by decide)).trans ((rI_c (by decide)).trans rI_s)
      · exact (rI_c (by decide)).trans ((rI_c (by decide)).trans ((rI_c (by decide)).trans (hI2 1 (by decide))))
      · exact (rI_c (by decide)).trans ((rI_c (by decide)).trans ((rI_c (by decide)).trans (hI2 2 (by decide))))
      · exact (rI_c (by decide)).trans ((rI_c (by decide)).trans ((rI_c (by decide)).trans (hI2 3 (by decide))))
      · exact (rI_c (by decide)).trans ((rI_c (by decide)).trans ((rI_c (by decide)).trans (hI2 4 (by decide))))
      · exact rI_s
      · exact (rI_c (by decide)).trans rI_s, ((hI3.tr (PTt.s (by decide) (by decide))).tr (PTt.s (by decide) (by decide))).tr (PTt.s (by decide) (by decide))⟩
  · show J _ _ _ _ _ [some (pR (some 117)), some (pI (nI t)), some (pI (nI q)), some (pI (nI i1))] _ _ h1
    obtain ⟨hI2, hI3⟩ := hI1
    have hG := hI3.fr.g hG0
    refine J_iload_n dX6_order_2 rfl ?_
    refine J_bipush (x := nI 7) dX6_order_3 (by decide) ?_
    refine J_icmp_geN dX6_order_5 (by omega) (by omega) (fun c1 => ?_) (fun c1 => ?_)
    · exact (show False by omega).elim
    · refine J_aload_n dX6_order_8 rfl ?_
      refine J_getR (r := some (117 + 1)) dX6_order_9 fX6_17 s117 (fun _ => rfl) (hrn.e4 hG) ?_
      refine J_iload_n dX6_order_12 rfl ?_
      refine J_aald7N (r := some (117 + 2 + i1)) dX6_order_13 hrn.s1 (by decide) (by omega) (hrn.er hG (by omega)) ?_
      refine J_iload_n dX6_order_14 rfl ?_
      refine J_iconstN (n := 0) dX6_order_15 ?_
      refine J_iastN dX6_order_16 (hrn.sr (by omega)) (by decide) (by omega) ?_
      refine J_iincN (n := 1) (L' := [some (pR (some 117)), some (pI (nI t)), some (pI (nI q)), some (pI (nI (i1 + 1)))]) dX6_order_17 rfl (by decide) rfl ?_
      refine J_goto dX6_order_20 ?_
      exact ih1 () _ ⟨fun j hj => by
        by_cases q : j = i1
        · subst q; exact rI_s
        · exact (rI_c (by omega)).trans (hI2 j (by omega)), hI3.tr (PTt.s (by omega) (by omega))⟩
theorem c_X9_isOrderRow {h : PH} {p : Nat} {A : AS} {n : Nat} (hG : GR h.2.2) (hX : XI h p A) (hW : WF A) (hn : n ≤ 900) : CtI mX9_isOrderRow h [pR (some 0), pI (nI n)] (fun v h' => v = bI (rowOk (aP A) (aT A) n) ∧ h' = h) := by
  have bN := hW.1
  have bk := hW.wk
  have bc := hW.cs
  have bw := hW.wn
  have bt := hW.tn
  have bf := hW.fn
  refine Ct.of (L := [some (pR (some 0)), some (pI (nI n)), none]) rfl rfl (Nat.le_of_ble_eq_true rfl) rfl ?_
  refine J_iload_n dX9_isOrderRow_0 rfl ?_
  refine J_aload_n dX9_isOrderRow_1 rfl ?_
  refine J_getR (r := some p) dX9_isOrderRow_2 fX9_20 s0 (fun _ => rfl) (hX.cu) ?_
  refine J_getI dX9_isOrderRow_5 fX9_113 hX.po.s (fun _ => rfl) ?_
  refine J_cvI (hX.tn) ?_
  refine J_icmp_eqN dX9_isOrderRow_8 (by omega) (by omega) (fun c1 => ?_) (fun c1 => ?_)
  · refine J_iconstN (n := 0) dX9_isOrderRow_13 ?_
    refine J_istore_n (L' := [some (pR (some 0)), some (pI (nI n)), some (pI (nI 0))]) dX9_isOrderRow_14 (by decide) rfl ?_
    refine J_L (L' := [some (pR (some 0)), some (pI (nI n)), some (pI (nI 0))]) rfl ?_
    refine J_forI (α := Unit) (L := fun i1 aa1 => [some (pR (some 0)), some (pI (nI n)), some (pI (nI i1))]) (fun i1 aa1 h1 => h = h1 ∧ ∀ j, j < i1 → inR (aT A j - nI 48) 41) (e := n) (fun aa1 h1 hI1 => ?_) (fun i1 aa1 h1 hi1 hI1 ih1 => ?_) 0 (()) _ (by omega) (⟨rfl, fun j hj => absurd hj (Nat.not_lt_zero j)⟩)
    · show J _ _ _ _ _ [some (pR (some 0)), some (pI (nI n)), some (pI (nI n))] _ _ h1
      obtain ⟨hI2, hI3⟩ := hI1
      subst hI2
      refine J_iload_n dX9_isOrderRow_15 rfl ?_
      refine J_iload_n dX9_isOrderRow_16 rfl ?_
      refine J_icmp_geN dX9_isOrderRow_17 (by omega) (by omega) (fun c2 => ?_) (fun c2 => ?_)
      · refine J_iconstN (n := 1) dX9_isOrderRow_43 ?_
        exact J_retZ dX9_isOrderRow_44 rfl rfl ⟨bI_t ⟨by omega, hI3⟩, rfl⟩
      · exact (show False by omega).elim
    · show J _ _ _ _ _ [some (pR (some 0)), some (pI (nI n)), some (pI (nI i1))] _ _ h1
      obtain ⟨hI2, hI3⟩ := hI1
      subst hI2
      refine J_iload_n dX9_isOrderRow_15 rfl ?_
      refine J_iload_n dX9_isOrderRow_16 rfl ?_
      refine J_icmp_geN dX9_isOrderRow_17 (by omega) (by omega) (fun c3 => ?_) (fun c3 => ?_)
      · exact (show False by omega).elim
      · refine J_aload_n dX9_isOrderRow_20 rfl ?_
        refine J_getR (r := some 1) dX9_isOrderRow_21 fX9_9 s0 (fun _ => rfl) (g0_0 hG) ?_
        refine J_iload_n dX9_isOrderRow_24 rfl ?_
        refine J_baldN dX9_isOrderRow_25 s1 (by decide) (by omega) ?_
        refine J_cvI ((hX.2.1.1 i1 (by omega))) ?_
        refine J_bipush (x := nI 48) dX9_isOrderRow_26 (by decide) ?_
        refine J_isub dX9_isOrderRow_28 ?_
        refine J_cSI (as := [pI ((aT A i1) - (nI 48))]) (st := []) dX9_isOrderRow_29 lX9_171 okX9_isOrder sX9_isOrder rfl rfl (Nat.le_of_ble_eq_true rfl) ⟨Nat.le_of_ble_eq_true rfl, Nat.le_of_ble_eq_true rfl⟩ CR.f (c_X9_isOrder) (fun vq4 gq4 eq4 => ?_)
        obtain ⟨rfl, fq4⟩ := eq4
        rw [fq4]
        refine J_if_neB dX9_isOrderRow_32 (fun d1 => ?_) (fun d1 => ?_)
        · refine J_iincN (n := 1) (L' := [some (pR (some 0)), some (pI (nI n)), some (pI (nI (i1 + 1)))]) dX9_isOrderRow_37 rfl (by decide) rfl ?_
          refine J_goto dX9_isOrderRow_40 ?_
          exact ih1 () _ ⟨rfl, fun j hj => by
        by_cases q : j = i1
        · subst q; exact d1
        · exact hI3 j (by omega)⟩
        · refine J_iconstN (n := 0) dX9_isOrderRow_35 ?_
          exact J_retZ dX9_isOrderRow_36 rfl rfl ⟨bI_f (fun q => d1 (q.2 i1 (by omega))), rfl⟩
  · refine J_iconstN (n := 0) dX9_isOrderRow_11 ?_
    exact J_retZ dX9_isOrderRow_12 rfl rfl ⟨bI_f (fun q => absurd q.1 (by omega)), rfl⟩
theorem c_X9_begin_in {h : PH} {p : Nat} {A : AS} {s : Nat} (hG : GR h.2.2) (hX : XI h p A) (hW : WF A) (hs : s < 2147483648) (hn : 0 < aP A 0 2 0) (hr : rowOk (aP A) (aT A) (aN A)) : CtI mX9_begin h [pR (some 0), pI (nI s)] (fun v h' => v = nI (bgR (aP A) s 1) ∧ XP h h' p (bgA A s)) := by
  have bN := hW.1
  have bk := hW.wk
  have bc := hW.cs
  have bw := hW.wn
  have bt := hW.tn
  have bf := hW.fn
  have hrn : IsRn 117 := Or.inl rfl
  have bo : aR A 0 0 < 2 := hW.on (by decide)
  have bl : (aL A).1 < 2 := hW.2.2.2.2.1.1
  have hrT := hr.1
  have hcu := hX.cu
  have bp := hX.po.b
  refine Ct.of (L := [some (pR (some 0)), some (pI (nI s)), none, none]) rfl rfl (Nat.le_of_ble_eq_true rfl) rfl ?_
  refine J_aload_n dX9_begin_0 rfl ?_
  refine J_cVI (ci := 9) (c := 0) (as := []) (st := []) dX9_begin_1 lX9_74 okX9_emptyTape vX9_emptyTape s0 (by decide) rfl rfl rfl (Nat.le_of_ble_eq_true rfl) ⟨Nat.le_of_ble_eq_true rfl, Nat.le_of_ble_eq_true rfl⟩ CR.f (c_X9_emptyTape hX.2.1.2) (fun v0 g0 e0 => ?_)
  obtain ⟨rfl, e0⟩ := e0
  have hX : XI g0 p (eA A) := by rw [e0]; exact hX.emp hW
  have hG : GR g0.2.2 := by rw [e0]; exact hG
  have hF : Fr 0 157 h g0 := by rw [e0]; exact Fr.sI (by decide) (by decide)
  have hW0 := hW
  have hW : WF (eA A) := hW.emp
  have hcu := hX.cu
  refine J_istore_n (L' := [some (pR (some 0)), some (pI (nI s)), some (pI (nI (aN A))), none]) dX9_begin_4 (by decide) rfl ?_
  refine J_iload_n dX9_begin_5 rfl ?_
  refine J_if_geN dX9_begin_6 (by omega) ?_
  refine J_aload_n dX9_begin_12 rfl ?_
  refine J_getR (r := some p) dX9_begin_13 fX9_20 s0 (fun _ => rfl) (hcu) ?_
  refine J_getI dX9_begin_16 fX9_110 hX.po.s (fun _ => rfl) ?_
  refine J_cvI ((show _ = nI (aP A 0 2 0) from hX.wn)) ?_
  refine J_if_neN dX9_begin_19 (by omega) (fun c1 => ?_) (fun c1 => ?_)
  · refine J_aload_n dX9_begin_25 rfl ?_
    refine J_iload_n dX9_begin_26 rfl ?_
    refine J_cVI (ci := 9) (c := 0) (as := [pI (nI (aN A))]) (st := []) dX9_begin_27 lX9_262 okX9_isOrderRow vX9_isOrderRow s0 (by decide) rfl rfl rfl (Nat.le_of_ble_eq_true rfl) ⟨Nat.le_of_ble_eq_true rfl, Nat.le_of_ble_eq_true rfl⟩ CR.f (c_X9_isOrderRow (A := eA A) hG hX hW (by omega)) (fun vq2 gq2 eq2 => ?_)
    obtain ⟨rfl, fq2⟩ := eq2
    rw [fq2]
    refine J_cvI (y := bI (rowOk (aP A) (aT A) (aN A))) rfl ?_
    refine J_if_neB dX9_begin_30 (fun c3 => ?_) (fun c3 => ?_)
    · refine J_iconstN (n := 0) dX9_begin_35 ?_
      refine J_istore_n (L' := [some (pR (some 0)), some (pI (nI s)), some (pI (nI (aN A))), some (pI (nI 0))]) dX9_begin_36 (by decide) rfl ?_
      refine J_L (L' := [some (pR (some 0)), some (pI (nI s)), some (pI (nI (aN A))), some (pI (nI 0))]) rfl ?_
      have hG0 := hG
      refine J_forI (α := Unit) (L := fun i1 aa1 => [some (pR (some 0)), some (pI (nI s)), some (pI (nI (aN A))), some (pI (nI i1))]) (fun i1 aa1 h1 => (∀ j, j < i1 → ∀ k, k < 7 → h1.1 (117 + 2 + k) j = rwV k (bgW (aT A) k j)) ∧ Fr 119 126 g0 h1) (e := aN A) (fun aa1 h1 hI1 => ?_) (fun i1 aa1 h1 hi1 hI1 ih1 => ?_) 0 (()) _ (by omega) (⟨fun j hj => absurd hj (Nat.not_lt_zero j), Fr.rf⟩)
      · show J _ _ _ _ _ [some (pR (some 0)), some (pI (nI s)), some (pI (nI (aN A))), some (pI (nI (aN A)))] _ _ h1
        obtain ⟨hI2, hI3⟩ := hI1
        have hG := hI3.g hG0
        have hcu : h1.2.2 0 2 = some p := hI3.r.trans hX.cu
        refine J_iload_n dX9_begin_37 rfl ?_
        refine J_iload_n dX9_begin_38 rfl ?_
        refine J_icmp_geN dX9_begin_39 (by omega) (by omega) (fun c4 => ?_) (fun c4 => ?_)
        · refine J_aload_n dX9_begin_65 rfl ?_
          refine J_getR (r := some 117) dX9_begin_66 fX9_62 s0 (fun _ => rfl) (g0_9 hG) ?_
          refine J_aload_n dX9_begin_69 rfl ?_
          refine J_getR (r := some p) dX9_begin_70 fX9_20 s0 (fun _ => rfl) (hcu) ?_
          refine J_iload_n dX9_begin_73 rfl ?_
          refine J_cVV (ci := 6) (c := 117) (as := [pR (some p), pI (nI s)]) (st := []) dX9_begin_74 lX9_305 okX6_start vX6_start s117 (by decide) rfl rfl rfl (Nat.le_of_ble_eq_true rfl) ⟨Nat.le_of_ble_eq_true rfl, Nat.le_of_ble_eq_true rfl⟩ CR.f (c_X6_start (n := aP A 0 2 0) (x := fun w => aP A 1 w 0) hG hX.po ((hI3.i (by omega)).trans hX.wn) hn (by omega) (fun k hk => (hI3.l (by omega)).trans (hX.x hk)) (fun k hk => hW0.x hk) hs) (fun g3 e3 => ?_)
          have hG := e3.2.g hG
          refine J_aload_n dX9_begin_77 rfl ?_
          refine J_getR (r := some 117) dX9_begin_78 fX9_62 s0 (fun _ => rfl) (g0_9 hG) ?_
          refine J_getI dX9_begin_81 fX9_309 s117 (fun _ => rfl) ?_
          refine J_cvI ((show _ = nI (bgR (aP A) s 1) from e3.1.2.1)) ?_
          have FF : Fr 117 126 g0 g3 := (hI3.mo (by decide) (by decide)).tr (e3.2.mo (by decide) (by decide))
          exact J_retI dX9_begin_84 rfl ⟨rfl, XI.run hX hW (r0 := 0) (R := bgR (aP A) s) (W := bgW (aT A)) (s := dr s) (by decide) FF (show RnX g3 117 (aP A) (bgR (aP A) s) (bgW (aT A)) (dr s) from ⟨e3.1.1, fun _ => ⟨e3.1.2.1, e3.1.2.2.1, e3.1.2.2.2.1, e3.1.2.2.2.2, fun t ht i hi => (e3.2.i (by omega)).trans (hI2 t (by rw [hr.1]; exact ht) i hi)⟩⟩), hF.tr (FF.mo (by decide) (by decide))⟩
        · exact (show False by omega).elim
      · show J _ _ _ _ _ [some (pR (some 0)), some (pI (nI s)), some (pI (nI (aN A))), some (pI (nI i1))] _ _ h1
        obtain ⟨hI2, hI3⟩ := hI1
        have hG := hI3.g hG0
        have hcu : h1.2.2 0 2 = some p := hI3.r.trans hX.cu
        have hq := rq_eq (hr.2 i1 (by omega))
        refine J_iload_n dX9_begin_37 rfl ?_
        refine J_iload_n dX9_begin_38 rfl ?_
        refine J_icmp_geN dX9_begin_39 (by omega) (by omega) (fun c5 => ?_) (fun c5 => ?_)
        · exact (show False by omega).elim
        · refine J_aload_n dX9_begin_42 rfl ?_
          refine J_getR (r := some 117) dX9_begin_43 fX9_62 s0 (fun _ => rfl) (g0_9 hG) ?_
          refine J_iload_n dX9_begin_46 rfl ?_
          refine J_aload_n dX9_begin_47 rfl ?_
          refine J_getR (r := some 1) dX9_begin_48 fX9_9 s0 (fun _ => rfl) (g0_0 hG) ?_
          refine J_iload_n dX9_begin_51 rfl ?_
          refine J_baldN dX9_begin_52 s1 (by decide) (by omega) ?_
          refine J_cvI (((hI3.i (by decide)).trans (show _ = aT A i1 from hX.2.1.1 i1 (by omega)))) ?_
          refine J_bipush (x := nI 48) dX9_begin_53 (by decide) ?_
          refine J_isub dX9_begin_55 ?_
          refine J_cvI (y := nI (rq (aT A) i1)) hq.1 ?_
          refine J_cVV (ci := 6) (c := 117) (as := [pI (nI i1), pI (nI (rq (aT A) i1))]) (st := []) dX9_begin_56 lX9_302 okX6_order vX6_order s117 (by decide) rfl rfl rfl (Nat.le_of_ble_eq_true rfl) ⟨Nat.le_of_ble_eq_true rfl, Nat.le_of_ble_eq_true rfl⟩ CR.f (c_X6_order hG (by omega)) (fun g2 e2 => ?_)
          refine J_iincN (n := 1) (L' := [some (pR (some 0)), some (pI (nI s)), some (pI (nI (aN A))), some (pI (nI (i1 + 1)))]) dX9_begin_59 rfl (by decide) rfl ?_
          refine J_goto dX9_begin_62 ?_
          exact ih1 () _ ⟨fun j hj k hk => by
          by_cases q : j = i1
          · subst q; exact e2.1 k hk
          · exact (e2.2.2.1 (117 + 2 + k) j (by omega) (by omega) q).trans (hI2 j (by omega) k hk), hI3.tr e2.2.fr⟩
    · exact absurd hr c3
  · exact (show False by omega).elim
theorem c_X9_begin_no {h : PH} {p : Nat} {A : AS} {s : Int32} (hG : GR h.2.2) (hX : XI h p A) (hW : WF A) (hno : s < 0 ∨ aP A 0 2 0 = 0 ∨ ¬ rowOk (aP A) (aT A) (aN A)) : CtI mX9_begin h [pR (some 0), pI s] (fun v h' => v = (if s < 0 then -2 else if aP A 0 2 0 = 0 then -4 else -1) ∧ XP h h' p (eA A)) := by
  have bN := hW.1
  have bk := hW.wk
  have bc := hW.cs
  have bw := hW.wn
  have bt := hW.tn
  have bf := hW.fn
  have hrn : IsRn 117 := Or.inl rfl
  have bo : aR A 0 0 < 2 := hW.on (by decide)
  have bl : (aL A).1 < 2 := hW.2.2.2.2.1.1
  have hcu := hX.cu
  refine Ct.of (L := [some (pR (some 0)), some (pI s), none, none]) rfl rfl (Nat.le_of_ble_eq_true rfl) rfl ?_
  refine J_aload_n dX9_begin_0 rfl ?_
  refine J_cVI (ci := 9) (c := 0) (as := []) (st := []) dX9_begin_1 lX9_74 okX9_emptyTape vX9_emptyTape s0 (by decide) rfl rfl rfl (Nat.le_of_ble_eq_true rfl) ⟨Nat.le_of_ble_eq_true rfl, Nat.le_of_ble_eq_true rfl⟩ CR.f (c_X9_emptyTape hX.2.1.2) (fun v0 g0 e0 => ?_)
  obtain ⟨rfl, e0⟩ := e0
  have hX : XI g0 p (eA A) := by rw [e0]; exact hX.emp hW
  have hG : GR g0.2.2 := by rw [e0]; exact hG
  have hF : Fr 0 157 h g0 := by rw [e0]; exact Fr.sI (by decide) (by decide)
  have hW0 := hW
  have hW : WF (eA A) := hW.emp
  have hcu := hX.cu
  refine J_istore_n (L' := [some (pR (some 0)), some (pI s), some (pI (nI (aN A))), none]) dX9_begin_4 (by decide) rfl ?_
  refine J_iload_n dX9_begin_5 rfl ?_
  refine J_if_ge dX9_begin_6 (fun d1_ => ?_) (fun d1_ => ?_)
  · have d1 := Int32.not_lt.mpr d1_
    refine J_aload_n dX9_begin_12 rfl ?_
    refine J_getR (r := some p) dX9_begin_13 fX9_20 s0 (fun _ => rfl) (hcu) ?_
    refine J_getI dX9_begin_16 fX9_110 hX.po.s (fun _ => rfl) ?_
    refine J_cvI ((show _ = nI (aP A 0 2 0) from hX.wn)) ?_
    refine J_if_neN dX9_begin_19 (by omega) (fun d2 => ?_) (fun d2 => ?_)
    · refine J_aload_n dX9_begin_25 rfl ?_
      refine J_iload_n dX9_begin_26 rfl ?_
      refine J_cVI (ci := 9) (c := 0) (as := [pI (nI (aN A))]) (st := []) dX9_begin_27 lX9_262 okX9_isOrderRow vX9_isOrderRow s0 (by decide) rfl rfl rfl (Nat.le_of_ble_eq_true rfl) ⟨Nat.le_of_ble_eq_true rfl, Nat.le_of_ble_eq_true rfl⟩ CR.f (c_X9_isOrderRow (A := eA A) hG hX hW (by omega)) (fun vq3 gq3 eq3 => ?_)
      obtain ⟨rfl, fq3⟩ := eq3
      rw [fq3]
      refine J_cvI (y := bI (rowOk (aP A) (aT A) (aN A))) rfl ?_
      refine J_if_neB dX9_begin_30 (fun d3 => ?_) (fun d3 => ?_)
      · exact absurd d3 (hno.elim (fun z => absurd z d1) (fun z => z.elim (fun y => absurd y (by omega)) id))
      · refine J_iconst (x := -1) dX9_begin_33 (by decide) ?_
        exact J_retI dX9_begin_34 rfl ⟨by rw [if_neg d1, if_neg (by omega)], hX, hF⟩
    · refine J_bipush (x := (-4)) dX9_begin_22 (by decide) ?_
      exact J_retI dX9_begin_24 rfl ⟨by rw [if_neg d1, if_pos (by omega)], hX, hF⟩
  · have d1 := Int32.not_le.mp d1_
    refine J_bipush (x := (-2)) dX9_begin_9 (by decide) ?_
    exact J_retI dX9_begin_11 rfl ⟨(if_pos d1).symm, hX, hF⟩
theorem c_X9_begin {h : PH} {p : Nat} {A : AS} {s : Int32} (hG : GR h.2.2) (hX : XI h p A) (hW : WF A) : CtI mX9_begin h [pR (some 0), pI s] (fun v h' => v = beginA A s ∧ XP h h' p (beginS A s)) := by
  by_cases hok : ¬ s < 0 ∧ 0 < aP A 0 2 0 ∧ rowOk (aP A) (aT A) (aN A)
  · obtain ⟨h1, h2, h3⟩ := id hok
    obtain ⟨s, hs, rfl⟩ := inR_of (t := s) (n := 2147483648) ⟨le_0_.mp (Int32.not_lt.mp h1), by have := Int32.toInt_lt s; omega⟩
    rw [beginA, beginS, if_neg h1, if_neg (by omega), if_pos h3, if_pos hok, cl, nI_clamp (by omega)]
    exact c_X9_begin_in hG hX hW hs h2 h3
  · have e : beginA A s = if s < 0 then -2 else if aP A 0 2 0 = 0 then -4 else -1 := by
      unfold beginA
      by_cases z : s < 0
      · rw [if_pos z, if_pos z]
      · rw [if_neg z, if_neg z]
        by_cases y : aP A 0 2 0 = 0
        · rw [if_pos y, if_pos y]
        · rw [if_neg y, if_neg y, if_neg (fun x => hok ⟨z, Nat.pos_of_ne_zero y, x⟩)]
    rw [e, beginS, if_neg hok]
    refine c_X9_begin_no hG hX hW ?_
    by_cases z : s < 0
    · exact Or.inl z
    · by_cases y : aP A 0 2 0 = 0
      · exact Or.inr (Or.inl y)
      · exact Or.inr (Or.inr (fun x => hok ⟨z, Nat.pos_of_ne_zero y, x⟩))
