/-! ===== faults of numbers: the class ===== -/
theorem tk_dig {T : Nat → Int32} {n s : Nat} (h : tkK T n s = 3) : s < n ∧ tkE T n s - s ≤ 3 ∧ tkV T n s < 1000 := by
  have hs : s < n := by
    have := mt (tkK_0 (T := T) (n := n) (s := s)).mpr (by omega)
    omega
  have hl : ¬ cLe (T s) = true := fun q => (tk_word hs q).2.2 h
  have hd : cDi (T s) = true := by
    by_cases q : cDi (T s) = true
    · exact q
    · exact absurd h (tk_semi hs hl q).2.2
  have e := tk_num hs hl hd
  have g : tkK T n s = if rn cDi T n s - s ≤ 3 then 3 else 1 := by
    unfold tkK
    rw [if_neg (by omega), if_neg hl, if_pos hd]
  rw [h] at g
  have b : rn cDi T n s - s ≤ 3 := by
    by_cases q : rn cDi T n s - s ≤ 3
    · exact q
    · rw [if_neg q] at g
      omega
  rw [e.1, e.2.2 h]
  refine ⟨hs, b, Nat.lt_of_lt_of_le (nv_b _ (fun i hi => (rn_in (by omega) (by omega : s + i < rn cDi T n s)).2)) (Nat.pow_le_pow_right (by decide) b)⟩
def csA (num : Nat → Nat) (V : Nat) : Nat → Nat
  | 0 => V
  | i + 1 => csA num V i + num (2 + i)
theorem csA_e {num : Nat → Nat} {V : Nat} : ∀ i, csA num V i = V + sm (fun i => num (2 + i)) i
  | 0 => rfl
  | i + 1 => by
    show csA num V i + num (2 + i) = V + (sm (fun i => num (2 + i)) i + num (2 + i))
    rw [csA_e i]
    omega
theorem hiK_b {k c : Nat} (hk : k < 7) (hc : c < 7) : hiK k c ≤ 500 ∧ loK k c ≤ 1 := hiT_b _ (by omega)
theorem c_X5_isLastChance {h : PH} {k c : Nat} (hk : k < 7) (hc : c < 8) (h9 : h.1 88 9 = nI k) (h10 : h.1 88 10 = nI c) : CtI mX5_isLastChance h [pR (some 88)] (fun v h' => v = bI ((k = 2 ∧ c = 4) ∨ (k = 4 ∧ c = 5)) ∧ h' = h) := by
  refine Ct.of (L := [some (pR (some 88))]) rfl rfl (Nat.le_of_ble_eq_true rfl) rfl ?_
  refine J_aload_n dX5_isLastChance_0 rfl ?_
  refine J_getI dX5_isLastChance_1 fX5_42 s88 (fun _ => rfl) ?_
  refine J_cvI (h9) ?_
  refine J_iconstN (n := 2) dX5_isLastChance_4 ?_
  refine J_icmp_neN dX5_isLastChance_5 (by omega) (by omega) (fun c1 => ?_) (fun c1 => ?_)
  · refine J_aload_n dX5_isLastChance_16 rfl ?_
    refine J_getI dX5_isLastChance_17 fX5_42 s88 (fun _ => rfl) ?_
    refine J_cvI (h9) ?_
    refine J_iconstN (n := 4) dX5_isLastChance_20 ?_
    refine J_icmp_neN dX5_isLastChance_21 (by omega) (by omega) (fun c2 => ?_) (fun c2 => ?_)
    · refine J_iconstN (n := 0) dX5_isLastChance_36 ?_
      exact J_retZ dX5_isLastChance_37 rfl rfl ⟨bI_f (by omega), rfl⟩
    · refine J_aload_n dX5_isLastChance_24 rfl ?_
      refine J_getI dX5_isLastChance_25 fX5_169 s88 (fun _ => rfl) ?_
      refine J_cvI (h10) ?_
      refine J_iconstN (n := 5) dX5_isLastChance_28 ?_
      refine J_icmp_neN dX5_isLastChance_29 (by omega) (by omega) (fun c3 => ?_) (fun c3 => ?_)
      · refine J_iconstN (n := 0) dX5_isLastChance_36 ?_
        exact J_retZ dX5_isLastChance_37 rfl rfl ⟨bI_f (by omega), rfl⟩
      · refine J_iconstN (n := 1) dX5_isLastChance_32 ?_
        refine J_goto dX5_isLastChance_33 ?_
        exact J_retZ dX5_isLastChance_37 rfl rfl ⟨bI_t (by omega), rfl⟩
  · refine J_aload_n dX5_isLastChance_8 rfl ?_
    refine J_getI dX5_isLastChance_9 fX5_169 s88 (fun _ => rfl) ?_
    refine J_cvI (h10) ?_
    refine J_iconstN (n := 4) dX5_isLastChance_12 ?_
    refine J_icmp_eqN dX5_isLastChance_13 (by omega) (by omega) (fun c4 => ?_) (fun c4 => ?_)
    · refine J_iconstN (n := 1) dX5_isLastChance_32 ?_
      refine J_goto dX5_isLastChance_33 ?_
      exact J_retZ dX5_isLastChance_37 rfl rfl ⟨bI_t (by omega), rfl⟩
    · refine J_aload_n dX5_isLastChance_16 rfl ?_
      refine J_getI dX5_isLastChance_17 fX5_42 s88 (fun _ => rfl) ?_
      refine J_cvI (h9) ?_
      refine J_iconstN (n := 4) dX5_isLastChance_20 ?_
      refine J_icmp_neN dX5_isLastChance_21 (by omega) (by omega) (fun c5 => ?_) (fun c5 => ?_)
      · refine J_iconstN (n := 0) dX5_isLastChance_36 ?_
        exact J_retZ dX5_isLastChance_37 rfl rfl ⟨bI_f (by omega), rfl⟩
      · refine J_aload_n dX5_isLastChance_24 rfl ?_
        refine J_getI dX5_isLastChance_25 fX5_169 s88 (fun _ => rfl) ?_
        refine J_cvI (h10) ?_
        refine J_iconstN (n := 5) dX5_isLastChance_28 ?_
        refine J_icmp_neN dX5_isLastChance_29 (by omega) (by omega) (fun c6 => ?_) (fun c6 => ?_)
        · refine J_iconstN (n := 0) dX5_isLastChance_36 ?_
          exact J_retZ dX5_isLastChance_37 rfl rfl ⟨bI_f (by omega), rfl⟩
        · refine J_iconstN (n := 1) dX5_isLastChance_32 ?_
          refine J_goto dX5_isLastChance_33 ?_
          exact J_retZ dX5_isLastChance_37 rfl rfl ⟨bI_t (by omega), rfl⟩
theorem c_X5_chancesSoFar {h : PH} {k c V : Nat} {num : Nat → Nat} (hG : GR h.2.2) (hc : c < 8) (hc2 : 2 ≤ c) (h10 : h.1 88 10 = nI c) (h8 : h.1 88 8 = nI V) (hN : ∀ i, i < c → h.1 89 i = nI (num i) ∧ num i ≤ 500) : CtI mX5_chancesSoFar h [pR (some 88)] (fun v h' => v = nI (V + csN num c) ∧ h' = h) := by
  refine Ct.of (L := [some (pR (some 88)), none, none]) rfl rfl (Nat.le_of_ble_eq_true rfl) rfl ?_
  refine J_aload_n dX5_chancesSoFar_0 rfl ?_
  refine J_getI dX5_chancesSoFar_1 fX5_77 s88 (fun _ => rfl) ?_
  refine J_cvI (h8) ?_
  refine J_istore_n (L' := [some (pR (some 88)), some (pI (nI V)), none]) dX5_chancesSoFar_4 (by decide) rfl ?_
  refine J_iconstN (n := 2) dX5_chancesSoFar_5 ?_
  refine J_istore_n (L' := [some (pR (some 88)), some (pI (nI V)), some (pI (nI 2))]) dX5_chancesSoFar_6 (by decide) rfl ?_
  refine J_L (L' := [some (pR (some 88)), some (pI (nI (csA num V 0))), some (pI (nI (2 + 0)))]) rfl ?_
  refine J_for (L := fun i1 => [some (pR (some 88)), some (pI (nI (csA num V i1))), some (pI (nI (2 + i1)))]) (hf := fun i1 => h) (e := c - 2) ?_ (fun i1 hi1 ih1 => ?_) 0 (by omega)
  · show J _ _ _ _ _ [some (pR (some 88)), some (pI (nI (csA num V (c - 2)))), some (pI (nI (2 + (c - 2))))] _ _ (h)
    refine J_iload_n dX5_chancesSoFar_7 rfl ?_
    refine J_aload_n dX5_chancesSoFar_8 rfl ?_
    refine J_getI dX5_chancesSoFar_9 fX5_169 s88 (fun _ => rfl) ?_
    refine J_cvI (h10) ?_
    refine J_icmp_geN dX5_chancesSoFar_12 (by omega) (by omega) (fun c1 => ?_) (fun c1 => ?_)
    · refine J_iload_n dX5_chancesSoFar_30 rfl ?_
      exact J_retI dX5_chancesSoFar_31 rfl ⟨by rw [csA_e]; rfl, rfl⟩
    · exact (show False by omega).elim
  · show J _ _ _ _ _ [some (pR (some 88)), some (pI (nI (csA num V i1))), some (pI (nI (2 + i1)))] _ _ (h)
    refine J_iload_n dX5_chancesSoFar_7 rfl ?_
    refine J_aload_n dX5_chancesSoFar_8 rfl ?_
    refine J_getI dX5_chancesSoFar_9 fX5_169 s88 (fun _ => rfl) ?_
    refine J_cvI (h10) ?_
    refine J_icmp_geN dX5_chancesSoFar_12 (by omega) (by omega) (fun c2 => ?_) (fun c2 => ?_)
    · exact (show False by omega).elim
    · refine J_iload_n dX5_chancesSoFar_15 rfl ?_
      refine J_aload_n dX5_chancesSoFar_16 rfl ?_
      refine J_getR (r := some 89) dX5_chancesSoFar_17 fX5_18 s88 (fun _ => rfl) (g88_11 hG) ?_
      refine J_iload_n dX5_chancesSoFar_20 rfl ?_
      refine J_ialdN dX5_chancesSoFar_21 s89 (by decide) (by omega) ?_
      refine J_cvI ((hN _ (by omega)).1) ?_
      refine J_iaddN dX5_chancesSoFar_22 ?_
      refine J_istore_n (L' := [some (pR (some 88)), some (pI (nI (csA num V i1 + num (2 + i1)))), some (pI (nI (2 + i1)))]) dX5_chancesSoFar_23 (by decide) rfl ?_
      refine J_iincN (n := 1) (L' := [some (pR (some 88)), some (pI (nI (csA num V i1 + num (2 + i1)))), some (pI (nI (2 + i1 + 1)))]) dX5_chancesSoFar_24 rfl (by decide) rfl ?_
      refine J_goto dX5_chancesSoFar_27 ?_
      exact ih1
theorem c_X5_faultOfNumber {h : PH} {k c V : Nat} {num : Nat → Nat} (hG : GR h.2.2) (hk : k < 7) (hc : c < 8) (h9 : h.1 88 9 = nI k) (h10 : h.1 88 10 = nI c) (hc7 : c < 7) (h8 : h.1 88 8 = nI V) (hV : V < 1000) (hN : ∀ i, i < c → h.1 89 i = nI (num i) ∧ num i ≤ 500) : CtI mX5_faultOfNumber h [pR (some 88)] (fun v h' => v = nI (numF k c V num) ∧ h' = h) := by
  have hb := hiK_b hk hc7
  have hsb : csN num c ≤ (c - 2) * 500 := sm_b _ (fun i hi => (hN (2 + i) (by omega)).2)
  refine Ct.of (L := [some (pR (some 88)), none]) rfl rfl (Nat.le_of_ble_eq_true rfl) rfl ?_
  refine J_aload_n dX5_faultOfNumber_0 rfl ?_
  refine J_getI dX5_faultOfNumber_1 fX5_42 s88 (fun _ => rfl) ?_
  refine J_cvI (h9) ?_
  refine J_bipush (x := nI 7) dX5_faultOfNumber_4 (by decide) ?_
  refine J_imulN dX5_faultOfNumber_6 ?_
  refine J_aload_n dX5_faultOfNumber_7 rfl ?_
  refine J_getI dX5_faultOfNumber_8 fX5_169 s88 (fun _ => rfl) ?_
  refine J_cvI (h10) ?_
  refine J_iaddN dX5_faultOfNumber_11 ?_
  refine J_istore_n (L' := [some (pR (some 88)), some (pI (nI (k * 7 + c)))]) dX5_faultOfNumber_12 (by decide) rfl ?_
  refine J_aload_n dX5_faultOfNumber_13 rfl ?_
  refine J_getI dX5_faultOfNumber_14 fX5_77 s88 (fun _ => rfl) ?_
  refine J_cvI (h8) ?_
  refine J_gets (v := pX 28) dX5_faultOfNumber_17 (lw_inG 733 (by decide +kernel) (by decide +kernel)) (fun _ _ _ q => q.2.2.1.1) ?_
  refine J_iload_n dX5_faultOfNumber_20 rfl ?_
  refine J_xiald (N := 49) (t := fun j => leastT.getD j 0) dX5_faultOfNumber_21 (fun _ _ _ q => q.2.2.1.2) (vp_in_nI (by omega) (by decide)) ?_
  refine J_cvI (y := nI (loK k c)) (by rw [nI_clamp (by omega)]; exact leastT_n _ (by omega)) ?_
  refine J_icmp_ltN dX5_faultOfNumber_22 (by omega) (by omega) (fun c1 => ?_) (fun c1 => ?_)
  · refine J_iconstN (n := 2) dX5_faultOfNumber_37 ?_
    exact J_retI dX5_faultOfNumber_38 rfl ⟨by unfold numF lcK; first | exact (show False by omega).elim | rw [if_pos (by omega)] | rw [if_neg (by omega), if_pos (by omega)] | rw [if_neg (by omega), if_neg (by omega), if_pos (by omega)] | rw [if_neg (by omega), if_neg (by omega), if_neg (by omega)], rfl⟩
  · refine J_aload_n dX5_faultOfNumber_25 rfl ?_
    refine J_getI dX5_faultOfNumber_26 fX5_77 s88 (fun _ => rfl) ?_
    refine J_cvI (h8) ?_
    refine J_gets (v := pX 29) dX5_faultOfNumber_29 (lw_inG 735 (by decide +kernel) (by decide +kernel)) (fun _ _ _ q => q.2.2.2.1.1) ?_
    refine J_iload_n dX5_faultOfNumber_32 rfl ?_
    refine J_xiald (N := 49) (t := fun j => mostT.getD j 0) dX5_faultOfNumber_33 (fun _ _ _ q => q.2.2.2.1.2) (vp_in_nI (by omega) (by decide)) ?_
    refine J_cvI (y := nI (hiK k c)) (by rw [nI_clamp (by omega)]; exact mostT_n _ (by omega)) ?_
    refine J_icmp_leN dX5_faultOfNumber_34 (by omega) (by omega) (fun c2 => ?_) (fun c2 => ?_)
    · refine J_aload_n dX5_faultOfNumber_39 rfl ?_
      refine J_getI dX5_faultOfNumber_40 fX5_42 s88 (fun _ => rfl) ?_
      refine J_cvI (h9) ?_
      refine J_iconstN (n := 3) dX5_faultOfNumber_43 ?_
      refine J_icmp_neN dX5_faultOfNumber_44 (by omega) (by omega) (fun c3 => ?_) (fun c3 => ?_)
      · refine J_aload_n dX5_faultOfNumber_66 rfl ?_
        refine J_cVI (ci := 5) (c := 88) (as := []) (st := []) dX5_faultOfNumber_67 lX5_178 okX5_isLastChance vX5_isLastChance s88 (by decide) rfl rfl rfl (Nat.le_of_ble_eq_true rfl) ⟨Nat.le_of_ble_eq_true rfl, Nat.le_of_ble_eq_true rfl⟩ CR.f (c_X5_isLastChance hk hc h9 h10) (fun vq4 gq4 eq4 => ?_)
        rw [eq4.2, eq4.1]
        refine J_if_eqB dX5_faultOfNumber_70 (fun dL => ?_) (fun dL => ?_)
        · refine J_iconstN (n := 0) dX5_faultOfNumber_87 ?_
          exact J_retI dX5_faultOfNumber_88 rfl ⟨by unfold numF lcK; first | exact (show False by omega).elim | rw [if_pos (by omega)] | rw [if_neg (by omega), if_pos (by omega)] | rw [if_neg (by omega), if_neg (by omega), if_pos (by omega)] | rw [if_neg (by omega), if_neg (by omega), if_neg (by omega)], rfl⟩
        · have hc2 : 2 ≤ c := (by omega)
          refine J_aload_n dX5_faultOfNumber_73 rfl ?_
          refine J_cVI (ci := 5) (c := 88) (as := []) (st := []) dX5_faultOfNumber_74 lX5_181 okX5_chancesSoFar vX5_chancesSoFar s88 (by decide) rfl rfl rfl (Nat.le_of_ble_eq_true rfl) ⟨Nat.le_of_ble_eq_true rfl, Nat.le_of_ble_eq_true rfl⟩ CR.f (c_X5_chancesSoFar (k := k) hG hc hc2 h10 h8 hN) (fun vq6 gq6 eq6 => ?_)
          rw [eq6.2, eq6.1]
          refine J_bipush (x := nI 10) dX5_faultOfNumber_77 (by decide) ?_
          refine J_icmp_eqN dX5_faultOfNumber_79 (by omega) (by omega) (fun c7 => ?_) (fun c7 => ?_)
          · refine J_iconstN (n := 0) dX5_faultOfNumber_87 ?_
            exact J_retI dX5_faultOfNumber_88 rfl ⟨by unfold numF lcK; first | exact (show False by omega).elim | rw [if_pos (by omega)] | rw [if_neg (by omega), if_pos (by omega)] | rw [if_neg (by omega), if_neg (by omega), if_pos (by omega)] | rw [if_neg (by omega), if_neg (by omega), if_neg (by omega)], rfl⟩
          · refine J_bipush (x := nI 7) dX5_faultOfNumber_82 (by decide) ?_
            refine J_goto dX5_faultOfNumber_84 ?_
            exact J_retI dX5_faultOfNumber_88 rfl ⟨by unfold numF lcK; first | exact (show False by omega).elim | rw [if_pos (by omega)] | rw [if_neg (by omega), if_pos (by omega)] | rw [if_neg (by omega), if_neg (by omega), if_pos (by omega)] | rw [if_neg (by omega), if_neg (by omega), if_neg (by omega)], rfl⟩
      · refine J_aload_n dX5_faultOfNumber_47 rfl ?_
        refine J_getI dX5_faultOfNumber_48 fX5_169 s88 (fun _ => rfl) ?_
        refine J_cvI (h10) ?_
        refine J_bipush (x := nI 6) dX5_faultOfNumber_51 (by decide) ?_
        refine J_icmp_neN dX5_faultOfNumber_53 (by omega) (by omega) (fun c8 => ?_) (fun c8 => ?_)
        · refine J_aload_n dX5_faultOfNumber_66 rfl ?_
          refine J_cVI (ci := 5) (c := 88) (as := []) (st := []) dX5_faultOfNumber_67 lX5_178 okX5_isLastChance vX5_isLastChance s88 (by decide) rfl rfl rfl (Nat.le_of_ble_eq_true rfl) ⟨Nat.le_of_ble_eq_true rfl, Nat.le_of_ble_eq_true rfl⟩ CR.f (c_X5_isLastChance hk hc h9 h10) (fun vq9 gq9 eq9 => ?_)
          rw [eq9.2, eq9.1]
          refine J_if_eqB dX5_faultOfNumber_70 (fun dL => ?_) (fun dL => ?_)
          · refine J_iconstN (n := 0) dX5_faultOfNumber_87 ?_
            exact J_retI dX5_faultOfNumber_88 rfl ⟨by unfold numF lcK; first | exact (show False by omega).elim | rw [if_pos (by omega)] | rw [if_neg (by omega), if_pos (by omega)] | rw [if_neg (by omega), if_neg (by omega), if_pos (by omega)] | rw [if_neg (by omega), if_neg (by omega), if_neg (by omega)], rfl⟩
          · have hc2 : 2 ≤ c := (by omega)
            refine J_aload_n dX5_faultOfNumber_73 rfl ?_
            refine J_cVI (ci := 5) (c := 88) (as := []) (st := []) dX5_faultOfNumber_74 lX5_181 okX5_chancesSoFar vX5_chancesSoFar s88 (by decide) rfl rfl rfl (Nat.le_of_ble_eq_true rfl) ⟨Nat.le_of_ble_eq_true rfl, Nat.le_of_ble_eq_true rfl⟩ CR.f (c_X5_chancesSoFar (k := k) hG hc hc2 h10 h8 hN) (fun vq11 gq11 eq11 => ?_)
            rw [eq11.2, eq11.1]
            refine J_bipush (x := nI 10) dX5_faultOfNumber_77 (by decide) ?_
            refine J_icmp_eqN dX5_faultOfNumber_79 (by omega) (by omega) (fun c12 => ?_) (fun c12 => ?_)
            · refine J_iconstN (n := 0) dX5_faultOfNumber_87 ?_
              exact J_retI dX5_faultOfNumber_88 rfl ⟨by unfold numF lcK; first | exact (show False by omega).elim | rw [if_pos (by omega)] | rw [if_neg (by omega), if_pos (by omega)] | rw [if_neg (by omega), if_neg (by omega), if_pos (by omega)] | rw [if_neg (by omega), if_neg (by omega), if_neg (by omega)], rfl⟩
            · refine J_bipush (x := nI 7) dX5_faultOfNumber_82 (by decide) ?_
              refine J_goto dX5_faultOfNumber_84 ?_
              exact J_retI dX5_faultOfNumber_88 rfl ⟨by unfold numF lcK; first | exact (show False by omega).elim | rw [if_pos (by omega)] | rw [if_neg (by omega), if_pos (by omega)] | rw [if_neg (by omega), if_neg (by omega), if_pos (by omega)] | rw [if_neg (by omega), if_neg (by omega), if_neg (by omega)], rfl⟩
        · refine J_aload_n dX5_faultOfNumber_56 rfl ?_
          refine J_getI dX5_faultOfNumber_57 fX5_77 s88 (fun _ => rfl) ?_
          refine J_cvI (h8) ?_
          refine J_iconstN (n := 1) dX5_faultOfNumber_60 ?_
          refine J_icmp_neN dX5_faultOfNumber_61 (by omega) (by omega) (fun c13 => ?_) (fun c13 => ?_)
          · refine J_aload_n dX5_faultOfNumber_66 rfl ?_
            refine J_cVI (ci := 5) (c := 88) (as := []) (st := []) dX5_faultOfNumber_67 lX5_178 okX5_isLastChance vX5_isLastChance s88 (by decide) rfl rfl rfl (Nat.le_of_ble_eq_true rfl) ⟨Nat.le_of_ble_eq_true rfl, Nat.le_of_ble_eq_true rfl⟩ CR.f (c_X5_isLastChance hk hc h9 h10) (fun vq14 gq14 eq14 => ?_)
            rw [eq14.2, eq14.1]
            refine J_if_eqB dX5_faultOfNumber_70 (fun dL => ?_) (fun dL => ?_)
            · refine J_iconstN (n := 0) dX5_faultOfNumber_87 ?_
              exact J_retI dX5_faultOfNumber_88 rfl ⟨by unfold numF lcK; first | exact (show False by omega).elim | rw [if_pos (by omega)] | rw [if_neg (by omega), if_pos (by omega)] | rw [if_neg (by omega), if_neg (by omega), if_pos (by omega)] | rw [if_neg (by omega), if_neg (by omega), if_neg (by omega)], rfl⟩
            · have hc2 : 2 ≤ c := (by omega)
              refine J_aload_n dX5_faultOfNumber_73 rfl ?_
              refine J_cVI (ci := 5) (c := 88) (as := []) (st := []) dX5_faultOfNumber_74 lX5_181 okX5_chancesSoFar vX5_chancesSoFar s88 (by decide) rfl rfl rfl (Nat.le_of_ble_eq_true rfl) ⟨Nat.le_of_ble_eq_true rfl, Nat.le_of_ble_eq_true rfl⟩ CR.f (c_X5_chancesSoFar (k := k) hG hc hc2 h10 h8 hN) (fun vq16 gq16 eq16 => ?_)
              rw [eq16.2, eq16.1]
              refine J_bipush (x := nI 10) dX5_faultOfNumber_77 (by decide) ?_
              refine J_icmp_eqN dX5_faultOfNumber_79 (by omega) (by omega) (fun c17 => ?_) (fun c17 => ?_)
              · refine J_iconstN (n := 0) dX5_faultOfNumber_87 ?_
                exact J_retI dX5_faultOfNumber_88 rfl ⟨by unfold numF lcK; first | exact (show False by omega).elim | rw [if_pos (by omega)] | rw [if_neg (by omega), if_pos (by omega)] | rw [if_neg (by omega), if_neg (by omega), if_pos (by omega)] | rw [if_neg (by omega), if_neg (by omega), if_neg (by omega)], rfl⟩
              · refine J_bipush (x := nI 7) dX5_faultOfNumber_82 (by decide) ?_
                refine J_goto dX5_faultOfNumber_84 ?_
                exact J_retI dX5_faultOfNumber_88 rfl ⟨by unfold numF lcK; first | exact (show False by omega).elim | rw [if_pos (by omega)] | rw [if_neg (by omega), if_pos (by omega)] | rw [if_neg (by omega), if_neg (by omega), if_pos (by omega)] | rw [if_neg (by omega), if_neg (by omega), if_neg (by omega)], rfl⟩
          · refine J_iconstN (n := 2) dX5_faultOfNumber_64 ?_
            exact J_retI dX5_faultOfNumber_65 rfl ⟨by unfold numF lcK; first | exact (show False by omega).elim | rw [if_pos (by omega)] | rw [if_neg (by omega), if_pos (by omega)] | rw [if_neg (by omega), if_neg (by omega), if_pos (by omega)] | rw [if_neg (by omega), if_neg (by omega), if_neg (by omega)], rfl⟩
    · refine J_iconstN (n := 2) dX5_faultOfNumber_37 ?_
      exact J_retI dX5_faultOfNumber_38 rfl ⟨by unfold numF lcK; first | exact (show False by omega).elim | rw [if_pos (by omega)] | rw [if_neg (by omega), if_pos (by omega)] | rw [if_neg (by omega), if_neg (by omega), if_pos (by omega)] | rw [if_neg (by omega), if_neg (by omega), if_neg (by omega)], rfl⟩
