theorem c_X10_common {h : PH} {U V : Nat} (bU : U < 2 ^ 62) (bV : V < 2 ^ 62) : CtL mX10_common h [pL (lN U), pL (lN V)] (fun v h' => v = lN (Nat.gcd U V) ∧ h' = h) := by
  refine Ct.of (L := [some (pL (lN U)), none, some (pL (lN V)), none, none, none, none, none, none, none]) rfl rfl (Nat.le_of_ble_eq_true rfl) rfl ?_
  have K : ∀ y x, x < 2 ^ 62 → y < 2 ^ 62 → Nat.gcd x y = Nat.gcd U V → J mX10_common (RF mX10_common) SHF (ZL (fun v h' => v = lN (Nat.gcd U V) ∧ h' = h)) 6 [some (pL (lN U)), none, some (pL (lN V)), none, some (pL (lN x)), none, some (pL (lN y)), none, none, none] [] SHF h := by
    intro y
    induction y using Nat.strongRecOn with
    | ind y ih =>
      intro x bx by_ hg
      refine J_lload dX10_common_6 rfl ?_
      refine J_lconst (x := 0) dX10_common_8 rfl ?_
      refine J_lcmp dX10_common_9 ?_
      refine J_lif_eq dX10_common_10 (fun c1 => ?_) (fun c1 => ?_)
      · have y0 : y = 0 := (pk_lEQ (b := 0) (by omega) (by decide)).mp c1
        refine J_lload dX10_common_31 rfl ?_
        exact J_retL dX10_common_33 rfl ⟨by rw [← hg, y0, Nat.gcd_zero_right], rfl⟩
      · have yp : 0 < y := Nat.pos_of_ne_zero (fun z => c1 (by rw [z]; rfl))
        refine J_lload dX10_common_13 rfl ?_
        refine J_lload dX10_common_15 rfl ?_
        refine J_lrem dX10_common_17 (lN_n0 (by omega) (by omega)) ?_
        refine J_cvL (pk_lRem (by omega) (by omega) (by omega)) ?_
        refine J_lstore (L' := [some (pL (lN U)), none, some (pL (lN V)), none, some (pL (lN x)), none, some (pL (lN y)), none, some (pL (lN (x % y))), none]) dX10_common_18 (by decide) rfl ?_
        refine J_lload dX10_common_20 rfl ?_
        refine J_lstore (L' := [some (pL (lN U)), none, some (pL (lN V)), none, some (pL (lN y)), none, some (pL (lN y)), none, some (pL (lN (x % y))), none]) dX10_common_22 (by decide) rfl ?_
        refine J_lload dX10_common_24 rfl ?_
        refine J_lstore (L' := [some (pL (lN U)), none, some (pL (lN V)), none, some (pL (lN y)), none, some (pL (lN (x % y))), none, some (pL (lN (x % y))), none]) dX10_common_26 (by decide) rfl ?_
        refine J_goto dX10_common_28 ?_
        refine J_drop (L' := [some (pL (lN U)), none, some (pL (lN V)), none, some (pL (lN y)), none, some (pL (lN (x % y))), none, none, none]) 8 rfl ?_
        have ml := Nat.mod_lt x yp
        exact ih (x % y) ml y by_ (by omega) (by rw [← hg, Nat.gcd_comm x y, Nat.gcd_rec y x, Nat.gcd_comm])
  refine J_lload_n dX10_common_0 rfl ?_
  refine J_lstore (L' := [some (pL (lN U)), none, some (pL (lN V)), none, some (pL (lN U)), none, none, none, none, none]) dX10_common_1 (by decide) rfl ?_
  refine J_lload_n dX10_common_3 rfl ?_
  refine J_lstore (L' := [some (pL (lN U)), none, some (pL (lN V)), none, some (pL (lN U)), none, some (pL (lN V)), none, none, none]) dX10_common_4 (by decide) rfl ?_
  exact K V U bU bV rfl
theorem c_X10_leastOf {h : PH} {U V b : Nat} (bU : U < 2 ^ 62) (bV : V < 2 ^ 62) (pV : 0 < V) (bb : b < 2) : CtL mX10_leastOf h [pL (lN U), pL (lN V), pI (nI b)] (fun v h' => v = lN ((if b = 0 then U else V) / Nat.gcd U V) ∧ h' = h) := by
  have g0 : 0 < Nat.gcd U V := Nat.gcd_pos_of_pos_right U pV
  have g1 : Nat.gcd U V ≤ V := Nat.gcd_le_right U pV
  refine Ct.of (L := [some (pL (lN U)), none, some (pL (lN V)), none, some (pI (nI b))]) rfl rfl (Nat.le_of_ble_eq_true rfl) rfl ?_
  refine J_iload dX10_leastOf_0 rfl ?_
  refine J_if_eqN dX10_leastOf_2 (by omega) (fun c1 => ?_) (fun c1 => ?_)
  · refine J_lload_n dX10_leastOf_9 rfl ?_
    refine J_lload_n dX10_leastOf_10 rfl ?_
    refine J_lload_n dX10_leastOf_11 rfl ?_
    refine J_cSL (as := [pL (lN U), pL (lN V)]) (st := [pL (lN U)]) dX10_leastOf_12 lX10_328 okX10_common sX10_common rfl rfl (Nat.le_of_ble_eq_true rfl) ⟨Nat.le_of_ble_eq_true rfl, Nat.le_of_ble_eq_true rfl⟩ CR.f (c_X10_common bU bV) (fun vq2 gq2 eq2 => ?_)
    obtain ⟨rfl, fq2⟩ := eq2
    rw [fq2]
    refine J_ldiv dX10_leastOf_15 (lN_n0 (by omega) (by omega)) ?_
    refine J_cvL (pk_lDiv (by omega) (by omega) (by omega)) ?_
    exact J_retL dX10_leastOf_16 rfl ⟨by simp [*], rfl⟩
  · refine J_lload_n dX10_leastOf_5 rfl ?_
    refine J_goto dX10_leastOf_6 ?_
    refine J_lload_n dX10_leastOf_10 rfl ?_
    refine J_lload_n dX10_leastOf_11 rfl ?_
    refine J_cSL (as := [pL (lN U), pL (lN V)]) (st := [pL (lN V)]) dX10_leastOf_12 lX10_328 okX10_common sX10_common rfl rfl (Nat.le_of_ble_eq_true rfl) ⟨Nat.le_of_ble_eq_true rfl, Nat.le_of_ble_eq_true rfl⟩ CR.f (c_X10_common bU bV) (fun vq3 gq3 eq3 => ?_)
    obtain ⟨rfl, fq3⟩ := eq3
    rw [fq3]
    refine J_ldiv dX10_leastOf_15 (lN_n0 (by omega) (by omega)) ?_
    refine J_cvL (pk_lDiv (by omega) (by omega) (by omega)) ?_
    exact J_retL dX10_leastOf_16 rfl ⟨by simp [*], rfl⟩
theorem c_X9_leastNumber {h : PH} {U V b : Nat} (bU : U < 2 ^ 60) (bV : V < 2 ^ 62) (pV : 0 < V) (bb : b < 2) : CtL mX9_leastNumber h [pL (lN U), pL (lN V), pI (nI b)] (fun v h' => v = lN ((if b = 0 then U else V) / Nat.gcd U V) ∧ h' = h) := by
  have g0 : 0 < Nat.gcd U V := Nat.gcd_pos_of_pos_right U pV
  have g1 : Nat.gcd U V ≤ V := Nat.gcd_le_right U pV
  refine Ct.of (L := [some (pL (lN U)), none, some (pL (lN V)), none, some (pI (nI b)), none, none, none, none, none, none, none]) rfl rfl (Nat.le_of_ble_eq_true rfl) rfl ?_
  have K45 : ∀ i d r, d = Nat.gcd U V → J mX9_leastNumber (RF mX9_leastNumber) SHF (ZL (fun v h' => v = lN ((if b = 0 then U else V) / Nat.gcd U V) ∧ h' = h)) 45 [some (pL (lN U)), none, some (pL (lN V)), none, some (pI (nI b)), some (pL (lN d)), none, some (pL (lN r)), none, some (pI (nI i)), none, none] [] SHF h := by
    intro i d r ed
    have d0 : 0 < d := by omega
    have d1 : d ≤ V := by omega
    refine J_iload dX9_leastNumber_45 rfl ?_
    refine J_if_eqN dX9_leastNumber_47 (by omega) (fun c1 => ?_) (fun c1 => ?_)
    · refine J_lload_n dX9_leastNumber_54 rfl ?_
      refine J_lstore (L' := [some (pL (lN U)), none, some (pL (lN V)), none, some (pI (nI b)), some (pL (lN d)), none, some (pL (lN r)), none, some (pL (lN U)), none, none]) dX9_leastNumber_55 (by decide) rfl ?_
      refine J_lload dX9_leastNumber_57 rfl ?_
      refine J_lconst (x := 0) dX9_leastNumber_59 rfl ?_
      refine J_lcmp dX9_leastNumber_60 ?_
      refine J_lif_ne dX9_leastNumber_61 (fun c2 => ?_) (fun c2 => ?_)
      · refine J_lload dX9_leastNumber_69 rfl ?_
        refine J_lload dX9_leastNumber_71 rfl ?_
        refine J_ldiv dX9_leastNumber_73 (lN_n0 (by omega) (by omega)) ?_
        refine J_cvL (pk_lDiv (by omega) (by omega) (by omega)) ?_
        exact J_retL dX9_leastNumber_74 rfl ⟨by rw [ed]; simp [*], rfl⟩
      · exact absurd c2 (lN_n0 d0 (by omega))
    · refine J_lload_n dX9_leastNumber_50 rfl ?_
      refine J_goto dX9_leastNumber_51 ?_
      refine J_lstore (L' := [some (pL (lN U)), none, some (pL (lN V)), none, some (pI (nI b)), some (pL (lN d)), none, some (pL (lN r)), none, some (pL (lN V)), none, none]) dX9_leastNumber_55 (by decide) rfl ?_
      refine J_lload dX9_leastNumber_57 rfl ?_
      refine J_lconst (x := 0) dX9_leastNumber_59 rfl ?_
      refine J_lcmp dX9_leastNumber_60 ?_
      refine J_lif_ne dX9_leastNumber_61 (fun c3 => ?_) (fun c3 => ?_)
      · refine J_lload dX9_leastNumber_69 rfl ?_
        refine J_lload dX9_leastNumber_71 rfl ?_
        refine J_ldiv dX9_leastNumber_73 (lN_n0 (by omega) (by omega)) ?_
        refine J_cvL (pk_lDiv (by omega) (by omega) (by omega)) ?_
        exact J_retL dX9_leastNumber_74 rfl ⟨by rw [ed]; simp [*], rfl⟩
      · exact absurd c3 (lN_n0 d0 (by omega))
  have KX : ∀ i d, i ≤ 130 → d = Nat.gcd U V → J mX9_leastNumber (RF mX9_leastNumber) SHF (ZL (fun v h' => v = lN ((if b = 0 then U else V) / Nat.gcd U V) ∧ h' = h)) 9 [some (pL (lN U)), none, some (pL (lN V)), none, some (pI (nI b)), some (pL (lN d)), none, some (pL (lN 0)), none, some (pI (nI i)), none, none] [] SHF h := by
    intro i d bi ed
    refine J_iload dX9_leastNumber_9 rfl ?_
    refine J_sipush (x := nI 130) dX9_leastNumber_11 (by decide) ?_
    refine J_icmp_geN dX9_leastNumber_14 (by omega) (by omega) (fun c4 => ?_) (fun c4 => ?_)
    · exact K45 i d 0 ed
    · refine J_lload dX9_leastNumber_17 rfl ?_
      refine J_lconst (x := 0) dX9_leastNumber_19 rfl ?_
      refine J_lcmp dX9_leastNumber_20 ?_
      refine J_lif_eq dX9_leastNumber_21 (fun c5 => ?_) (fun c5 => ?_)
      · exact K45 i d 0 ed
      · exact absurd rfl c5
  have KB : ∀ i d r, i < 130 → 0 < r → r < 2 ^ 60 → d < 2 ^ 62 → J mX9_leastNumber (RF mX9_leastNumber) SHF (ZL (fun v h' => v = lN ((if b = 0 then U else V) / Nat.gcd U V) ∧ h' = h)) 9 [some (pL (lN U)), none, some (pL (lN V)), none, some (pI (nI b)), some (pL (lN r)), none, some (pL (lN (d % r))), none, some (pI (nI (i + 1))), none, none] [] SHF h → J mX9_leastNumber (RF mX9_leastNumber) SHF (ZL (fun v h' => v = lN ((if b = 0 then U else V) / Nat.gcd U V) ∧ h' = h)) 9 [some (pL (lN U)), none, some (pL (lN V)), none, some (pI (nI b)), some (pL (lN d)), none, some (pL (lN r)), none, some (pI (nI i)), none, none] [] SHF h := by
    intro i d r bi pr br bd ih
    refine J_iload dX9_leastNumber_9 rfl ?_
    refine J_sipush (x := nI 130) dX9_leastNumber_11 (by decide) ?_
    refine J_icmp_geN dX9_leastNumber_14 (by omega) (by omega) (fun c6 => ?_) (fun c6 => ?_)
    · exact (show False by omega).elim
    · refine J_lload dX9_leastNumber_17 rfl ?_
      refine J_lconst (x := 0) dX9_leastNumber_19 rfl ?_
      refine J_lcmp dX9_leastNumber_20 ?_
      refine J_lif_eq dX9_leastNumber_21 (fun c7 => ?_) (fun c7 => ?_)
      · exact absurd c7 (lN_n0 pr (by omega))
      · refine J_lload dX9_leastNumber_24 rfl ?_
        refine J_lload dX9_leastNumber_26 rfl ?_
        refine J_lrem dX9_leastNumber_28 (lN_n0 (by omega) (by omega)) ?_
        refine J_cvL (pk_lRem (by omega) (by omega) (by omega)) ?_
        refine J_lstore (L' := [some (pL (lN U)), none, some (pL (lN V)), none, some (pI (nI b)), some (pL (lN d)), none, some (pL (lN r)), none, some (pI (nI i)), some (pL (lN (d % r))), none]) dX9_leastNumber_29 (by decide) rfl ?_
        refine J_lload dX9_leastNumber_31 rfl ?_
        refine J_lstore (L' := [some (pL (lN U)), none, some (pL (lN V)), none, some (pI (nI b)), some (pL (lN r)), none, some (pL (lN r)), none, some (pI (nI i)), some (pL (lN (d % r))), none]) dX9_leastNumber_33 (by decide) rfl ?_
        refine J_lload dX9_leastNumber_35 rfl ?_
        refine J_lstore (L' := [some (pL (lN U)), none, some (pL (lN V)), none, some (pI (nI b)), some (pL (lN r)), none, some (pL (lN (d % r))), none, some (pI (nI i)), some (pL (lN (d % r))), none]) dX9_leastNumber_37 (by decide) rfl ?_
        refine J_iincN (n := 1) (L' := [some (pL (lN U)), none, some (pL (lN V)), none, some (pI (nI b)), some (pL (lN r)), none, some (pL (lN (d % r))), none, some (pI (nI (i + 1))), some (pL (lN (d % r))), none]) dX9_leastNumber_39 rfl (by decide) rfl ?_
        refine J_goto dX9_leastNumber_42 ?_
        refine J_drop (L' := [some (pL (lN U)), none, some (pL (lN V)), none, some (pI (nI b)), some (pL (lN r)), none, some (pL (lN (d % r))), none, some (pI (nI (i + 1))), none, none]) 10 rfl ?_
        exact ih
  have K : ∀ k i d r, r < 2 ^ k → k ≤ 60 → i + 2 * k ≤ 130 → d < 2 ^ 62 → r < 2 ^ 60 → Nat.gcd d r = Nat.gcd U V → J mX9_leastNumber (RF mX9_leastNumber) SHF (ZL (fun v h' => v = lN ((if b = 0 then U else V) / Nat.gcd U V) ∧ h' = h)) 9 [some (pL (lN U)), none, some (pL (lN V)), none, some (pI (nI b)), some (pL (lN d)), none, some (pL (lN r)), none, some (pI (nI i)), none, none] [] SHF h := by
    intro k
    induction k with
    | zero =>
      intro i d r hr _ hi bd br hg
      have : r = 0 := by simp at hr; exact hr
      subst this
      exact KX i d (by omega) (by rw [← hg, Nat.gcd_zero_right])
    | succ k ih =>
      intro i d r hr hk hi bd br hg
      rcases Nat.eq_zero_or_pos r with e | e
      · subst e; exact KX i d (by omega) (by rw [← hg, Nat.gcd_zero_right])
      · have m1 := Nat.mod_lt d e
        refine KB i d r (by omega) e br bd ?_
        have hg1 : Nat.gcd r (d % r) = Nat.gcd U V := by rw [← hg, Nat.gcd_comm d r, Nat.gcd_rec r d, Nat.gcd_comm]
        rcases Nat.eq_zero_or_pos (d % r) with e1 | e1
        · rw [e1]; exact KX (i + 1) r (by omega) (by rw [← hg1, e1, Nat.gcd_zero_right])
        · have m2 := Nat.mod_lt r e1
          refine KB (i + 1) r (d % r) (by omega) e1 (by omega) (by omega) ?_
          refine ih (i + 1 + 1) (d % r) (r % (d % r)) ?_ (by omega) (by omega) (by omega) (by omega) (by rw [← hg1, Nat.gcd_comm r (d % r), Nat.gcd_rec (d % r) r, Nat.gcd_comm])
          have h3 : r % (d % r) + (d % r) ≤ r := by have h4 := Nat.mod_add_div r (d % r); have h5 : 1 ≤ r / (d % r) := (Nat.le_div_iff_mul_le e1).mpr (by omega); have h6 : d % r ≤ (d % r) * (r / (d % r)) := Nat.le_mul_of_pos_right _ h5; omega
          rw [Nat.pow_succ] at hr
          omega
  refine J_lload_n dX9_leastNumber_0 rfl ?_
  refine J_lstore (L' := [some (pL (lN U)), none, some (pL (lN V)), none, some (pI (nI b)), some (pL (lN V)), none, none, none, none, none, none]) dX9_leastNumber_1 (by decide) rfl ?_
  refine J_lload_n dX9_leastNumber_3 rfl ?_
  refine J_lstore (L' := [some (pL (lN U)), none, some (pL (lN V)), none, some (pI (nI b)), some (pL (lN V)), none, some (pL (lN U)), none, none, none, none]) dX9_leastNumber_4 (by decide) rfl ?_
  refine J_iconstN (n := 0) dX9_leastNumber_6 ?_
  refine J_istore (L' := [some (pL (lN U)), none, some (pL (lN V)), none, some (pI (nI b)), some (pL (lN V)), none, some (pL (lN U)), none, some (pI (nI 0)), none, none]) dX9_leastNumber_7 (by decide) rfl ?_
  exact K 60 0 V U bU (Nat.le_refl 60) (by omega) bV bU (Nat.gcd_comm V U)
