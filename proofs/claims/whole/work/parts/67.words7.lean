/-! ===== words: the class ===== -/
/-- the Reader's token -/
def Tk (h : PH) (T : Nat → Int32) (n s : Nat) : Prop := h.1 88 7 = nI s ∧ h.1 88 4 = nI (tkE T n s) ∧ h.1 88 6 = tcd (tkK T n s) ∧ (tkK T n s = 3 → h.1 88 8 = nI (tkV T n s))
theorem tkK_b {T : Nat → Int32} {n s : Nat} : tkK T n s < 5 := by
  unfold tkK
  (repeat' split) <;> omega
theorem tcd_i : ∀ a, a < 5 → ∀ b, b < 5 → (tcd a = tcd b ↔ a = b) := by decide
theorem tcd_w {a : Nat} (ha : a < 5) : tcd a = nI 119 ↔ a = 2 := tcd_i a ha 2 (by decide)
theorem tcd_n {a : Nat} (ha : a < 5) : tcd a = nI 110 ↔ a = 3 := tcd_i a ha 3 (by decide)
theorem tcd_s {a : Nat} (ha : a < 5) : tcd a = nI 59 ↔ a = 4 := tcd_i a ha 4 (by decide)
theorem tcd_0 {a : Nat} (ha : a < 5) : tcd a = 0 ↔ a = 0 := tcd_i a ha 0 (by decide)
/-- a word's letters -/
theorem tk_let {T : Nat → Int32} {n s : Nat} (h : tkK T n s = 2) : s < n ∧ tkE T n s - s ≤ 8 ∧ ∀ i, i < tkE T n s - s → cLe (T (s + i)) = true := by
  have hs : s < n := by
    have := mt (tkK_0 (T := T) (n := n) (s := s)).mpr (by omega)
    omega
  have hl : cLe (T s) = true := by
    by_cases q : cLe (T s) = true
    · exact q
    · exfalso
      unfold tkK at h
      rw [if_neg (by omega), if_neg q] at h
      (repeat' split at h) <;> omega
  have e := (tk_word hs hl).1
  have g : tkK T n s = if rn cLe T n s - s ≤ 8 then 2 else 1 := by
    unfold tkK
    rw [if_neg (by omega), if_pos hl]
  rw [h] at g
  rw [e]
  refine ⟨hs, ?_, fun i hi => (rn_in (by omega) (by omega : s + i < rn cLe T n s)).2⟩
  by_cases q : rn cLe T n s - s ≤ 8
  · exact q
  · rw [if_neg q] at g
    omega
def shT : List Nat := [7, 7, 8, 9, 10, 11, 12]
def shI (k : Nat) : Nat := shT.getD k 0
theorem shI_b : ∀ k, k < 7 → shI k < nJS := by decide
theorem due_c : ∀ k, k < 7 → ∀ c, c < 8 → (c < lenJS.getD (shI k) 0 → chS (shI k) c = tcd (dueK k c)) ∧ (¬ c < lenJS.getD (shI k) 0 → nI 59 = tcd (dueK k c)) := by decide
theorem due_b : ∀ k, k < 7 → ∀ c, c < 8 → dueK k c < 5 := by decide
theorem kwT_c : ∀ e, e < 7 → kwT.getD e 0 = wvN (chS e) 0 (lenJS.getD e 0) := by decide
theorem kwT_l : ∀ e, e < 7 → ∀ i, i < lenJS.getD e 0 → cLe (chS e (0 + i)) = true := by decide
theorem tkV_w {T : Nat → Int32} {n s : Nat} (h : tkK T n s = 2) : tkV T n s = wvN T s (tkE T n s - s) := if_pos h
theorem kw_w {T : Nat → Int32} {n s e : Nat} (he : e < 7) (h : tkK T n s = 2) : kwT.getD e 0 = tkV T n s ↔ lenJS.getD e 0 = tkE T n s - s ∧ ∀ i, i < lenJS.getD e 0 → chS e i = T (s + i) := by
  rw [kwT_c e he, tkV_w h]
  have z := wv_inj (T := chS e) (U := T) (s := 0) (t := s) _ _ (kwT_l e he) (tk_let h).2.2
  rw [z]
  exact ⟨fun y => ⟨y.1, fun i hi => (congrArg (chS e) (Nat.zero_add i)).symm.trans (y.2 i hi)⟩, fun y => ⟨y.1, fun i hi => (congrArg (chS e) (Nat.zero_add i)).trans (y.2 i hi)⟩⟩
def clW (K V : Nat) : Int32 := if K = 2 then hlp (kw V) else -1
theorem kwF_in {V : Nat} : ∀ k, kwF V k ≤ k
  | 0 => Nat.le_refl 0
  | k + 1 => by
    have := kwF_in (V := V) k
    unfold kwF
    (repeat' split) <;> omega
theorem kwF_s {V k : Nat} (h : kwF V k = 0) : kwF V (k + 1) = if kwT.getD k 0 = V then k + 1 else 0 := by
  show (if kwF V k ≠ 0 then _ else _) = _
  rw [if_neg (by omega)]
theorem kwF_mo {V : Nat} : ∀ k d, kwF V k ≠ 0 → kwF V (k + d) = kwF V k
  | _, 0, _ => rfl
  | k, d + 1, h => by
    have e := kwF_mo k d h
    show (if kwF V (k + d) ≠ 0 then kwF V (k + d) else _) = _
    rw [if_pos (by rw [e]; exact h), e]
theorem kw_at {V k : Nat} (hk : k < 7) (h0 : kwF V k = 0) (h : kwT.getD k 0 = V) : kw V = k + 1 := by
  have e := kwF_s h0
  rw [if_pos h] at e
  have z := kwF_mo (V := V) (k + 1) (7 - (k + 1)) (by omega)
  rw [show k + 1 + (7 - (k + 1)) = 7 by omega] at z
  exact z.trans e
theorem c_X5_wordOf {h : PH} {k : Nat} (hk : k < 7) : CtX mX5_wordOf h [pI (nI k)] (fun v h' => v = k ∧ h' = h) := by
  refine Ct.of (L := [some (pI (nI k))]) rfl rfl (Nat.le_of_ble_eq_true rfl) rfl ?_
  refine J_iload_n dX5_wordOf_0 rfl ?_
  by_cases c1 : (nI k).toInt = 0
  · have ec1 : k = 0 := (by rw [nI_toInt (by omega)] at c1; omega)
    refine J_tabIn (tgt := 40) (0) dX5_wordOf_1 c1 (by decide) (by decide) rfl rfl ?_
    refine J_ldcS 0 dX5_wordOf_40 (by decide) rfl ?_
    exact J_retX dX5_wordOf_42 rfl (Or.inl ⟨_, rfl⟩) (by have z : k = 0 := (by omega); subst z; exact ⟨rfl, rfl⟩)
  have c1_0 : ¬ k = 0 := fun z => c1 (by rw [nI_toInt (by omega)]; omega)
  clear c1
  by_cases c1 : (nI k).toInt = 1
  · have ec1 : k = 1 := (by rw [nI_toInt (by omega)] at c1; omega)
    refine J_tabIn (tgt := 43) (1) dX5_wordOf_1 c1 (by decide) (by decide) rfl rfl ?_
    refine J_ldcS 1 dX5_wordOf_43 (by decide) rfl ?_
    exact J_retX dX5_wordOf_45 rfl (Or.inl ⟨_, rfl⟩) (by have z : k = 1 := (by omega); subst z; exact ⟨rfl, rfl⟩)
  have c1_1 : ¬ k = 1 := fun z => c1 (by rw [nI_toInt (by omega)]; omega)
  clear c1
  by_cases c1 : (nI k).toInt = 2
  · have ec1 : k = 2 := (by rw [nI_toInt (by omega)] at c1; omega)
    refine J_tabIn (tgt := 46) (2) dX5_wordOf_1 c1 (by decide) (by decide) rfl rfl ?_
    refine J_ldcS 2 dX5_wordOf_46 (by decide) rfl ?_
    exact J_retX dX5_wordOf_48 rfl (Or.inl ⟨_, rfl⟩) (by have z : k = 2 := (by omega); subst z; exact ⟨rfl, rfl⟩)
  have c1_2 : ¬ k = 2 := fun z => c1 (by rw [nI_toInt (by omega)]; omega)
  clear c1
  by_cases c1 : (nI k).toInt = 3
  · have ec1 : k = 3 := (by rw [nI_toInt (by omega)] at c1; omega)
    refine J_tabIn (tgt := 49) (3) dX5_wordOf_1 c1 (by decide) (by decide) rfl rfl ?_
    refine J_ldcS 3 dX5_wordOf_49 (by decide) rfl ?_
    exact J_retX dX5_wordOf_51 rfl (Or.inl ⟨_, rfl⟩) (by have z : k = 3 := (by omega); subst z; exact ⟨rfl, rfl⟩)
  have c1_3 : ¬ k = 3 := fun z => c1 (by rw [nI_toInt (by omega)]; omega)
  clear c1
  by_cases c1 : (nI k).toInt = 4
  · have ec1 : k = 4 := (by rw [nI_toInt (by omega)] at c1; omega)
    refine J_tabIn (tgt := 52) (4) dX5_wordOf_1 c1 (by decide) (by decide) rfl rfl ?_
    refine J_ldcS 4 dX5_wordOf_52 (by decide) rfl ?_
    exact J_retX dX5_wordOf_54 rfl (Or.inl ⟨_, rfl⟩) (by have z : k = 4 := (by omega); subst z; exact ⟨rfl, rfl⟩)
  have c1_4 : ¬ k = 4 := fun z => c1 (by rw [nI_toInt (by omega)]; omega)
  clear c1
  by_cases c1 : (nI k).toInt = 5
  · have ec1 : k = 5 := (by rw [nI_toInt (by omega)] at c1; omega)
    refine J_tabIn (tgt := 55) (5) dX5_wordOf_1 c1 (by decide) (by decide) rfl rfl ?_
    refine J_ldcS 5 dX5_wordOf_55 (by decide) rfl ?_
    exact J_retX dX5_wordOf_57 rfl (Or.inl ⟨_, rfl⟩) (by have z : k = 5 := (by omega); subst z; exact ⟨rfl, rfl⟩)
  have c1_5 : ¬ k = 5 := fun z => c1 (by rw [nI_toInt (by omega)]; omega)
  clear c1
  refine J_tabOut (tgt := 58) dX5_wordOf_1 (by rw [nI_toInt (by omega)]; omega) rfl ?_
  refine J_ldcS 6 dX5_wordOf_58 (by decide) rfl ?_
  exact J_retX dX5_wordOf_60 rfl (Or.inl ⟨_, rfl⟩) (by have z : k = 6 := (by omega); subst z; exact ⟨rfl, rfl⟩)
theorem c_X5_shapeOf {h : PH} {k : Nat} (hk : k < 7) : CtX mX5_shapeOf h [pI (nI k)] (fun v h' => v = shI k ∧ h' = h) := by
  refine Ct.of (L := [some (pI (nI k))]) rfl rfl (Nat.le_of_ble_eq_true rfl) rfl ?_
  refine J_iload_n dX5_shapeOf_0 rfl ?_
  by_cases c1 : (nI k).toInt = 0
  · have ec1 : k = 0 := (by rw [nI_toInt (by omega)] at c1; omega)
    refine J_tabIn (tgt := 40) (0) dX5_shapeOf_1 c1 (by decide) (by decide) rfl rfl ?_
    refine J_ldcS 7 dX5_shapeOf_40 (by decide) rfl ?_
    exact J_retX dX5_shapeOf_42 rfl (Or.inl ⟨_, rfl⟩) (by have z : k = 0 := (by omega); subst z; exact ⟨rfl, rfl⟩)
  have c1_0 : ¬ k = 0 := fun z => c1 (by rw [nI_toInt (by omega)]; omega)
  clear c1
  by_cases c1 : (nI k).toInt = 1
  · have ec1 : k = 1 := (by rw [nI_toInt (by omega)] at c1; omega)
    refine J_tabIn (tgt := 40) (1) dX5_shapeOf_1 c1 (by decide) (by decide) rfl rfl ?_
    refine J_ldcS 7 dX5_shapeOf_40 (by decide) rfl ?_
    exact J_retX dX5_shapeOf_42 rfl (Or.inl ⟨_, rfl⟩) (by have z : k = 1 := (by omega); subst z; exact ⟨rfl, rfl⟩)
  have c1_1 : ¬ k = 1 := fun z => c1 (by rw [nI_toInt (by omega)]; omega)
  clear c1
  by_cases c1 : (nI k).toInt = 2
  · have ec1 : k = 2 := (by rw [nI_toInt (by omega)] at c1; omega)
    refine J_tabIn (tgt := 43) (2) dX5_shapeOf_1 c1 (by decide) (by decide) rfl rfl ?_
    refine J_ldcS 8 dX5_shapeOf_43 (by decide) rfl ?_
    exact J_retX dX5_shapeOf_45 rfl (Or.inl ⟨_, rfl⟩) (by have z : k = 2 := (by omega); subst z; exact ⟨rfl, rfl⟩)
  have c1_2 : ¬ k = 2 := fun z => c1 (by rw [nI_toInt (by omega)]; omega)
  clear c1
  by_cases c1 : (nI k).toInt = 3
  · have ec1 : k = 3 := (by rw [nI_toInt (by omega)] at c1; omega)
    refine J_tabIn (tgt := 46) (3) dX5_shapeOf_1 c1 (by decide) (by decide) rfl rfl ?_
    refine J_ldcS 9 dX5_shapeOf_46 (by decide) rfl ?_
    exact J_retX dX5_shapeOf_48 rfl (Or.inl ⟨_, rfl⟩) (by have z : k = 3 := (by omega); subst z; exact ⟨rfl, rfl⟩)
  have c1_3 : ¬ k = 3 := fun z => c1 (by rw [nI_toInt (by omega)]; omega)
  clear c1
  by_cases c1 : (nI k).toInt = 4
  · have ec1 : k = 4 := (by rw [nI_toInt (by omega)] at c1; omega)
    refine J_tabIn (tgt := 49) (4) dX5_shapeOf_1 c1 (by decide) (by decide) rfl rfl ?_
    refine J_ldcS 10 dX5_shapeOf_49 (by decide) rfl ?_
    exact J_retX dX5_shapeOf_51 rfl (Or.inl ⟨_, rfl⟩) (by have z : k = 4 := (by omega); subst z; exact ⟨rfl, rfl⟩)
  have c1_4 : ¬ k = 4 := fun z => c1 (by rw [nI_toInt (by omega)]; omega)
  clear c1
  by_cases c1 : (nI k).toInt = 5
  · have ec1 : k = 5 := (by rw [nI_toInt (by omega)] at c1; omega)
    refine J_tabIn (tgt := 52) (5) dX5_shapeOf_1 c1 (by decide) (by decide) rfl rfl ?_
    refine J_ldcS 11 dX5_shapeOf_52 (by decide) rfl ?_
    exact J_retX dX5_shapeOf_54 rfl (Or.inl ⟨_, rfl⟩) (by have z : k = 5 := (by omega); subst z; exact ⟨rfl, rfl⟩)
  have c1_5 : ¬ k = 5 := fun z => c1 (by rw [nI_toInt (by omega)]; omega)
  clear c1
  refine J_tabOut (tgt := 55) dX5_shapeOf_1 (by rw [nI_toInt (by omega)]; omega) rfl ?_
  refine J_ldcS 12 dX5_shapeOf_55 (by decide) rfl ?_
  exact J_retX dX5_shapeOf_57 rfl (Or.inl ⟨_, rfl⟩) (by have z : k = 6 := (by omega); subst z; exact ⟨rfl, rfl⟩)
theorem c_X5_tokenDue {h : PH} {k c : Nat} (hk : k < 7) (hc : c < 8) (h9 : h.1 88 9 = nI k) (h10 : h.1 88 10 = nI c) : CtI mX5_tokenDue h [pR (some 88)] (fun v h' => v = tcd (dueK k c) ∧ h' = h) := by
  have hl := lenJS_b (shI k) (shI_b k hk)
  refine Ct.of (L := [some (pR (some 88)), none]) rfl rfl (Nat.le_of_ble_eq_true rfl) rfl ?_
  refine J_aload_n dX5_tokenDue_0 rfl ?_
  refine J_getI dX5_tokenDue_1 fX5_42 s88 (fun _ => rfl) ?_
  refine J_cvI (h9) ?_
  refine J_cSX (as := [pI (nI k)]) (st := []) dX5_tokenDue_4 lX5_166 okX5_shapeOf sX5_shapeOf rfl rfl (Nat.le_of_ble_eq_true rfl) ⟨Nat.le_of_ble_eq_true rfl, Nat.le_of_ble_eq_true rfl⟩ CR.f (c_X5_shapeOf hk) (fun vq1 gq1 eq1 => ?_)
  rw [eq1.2, eq1.1]
  refine J_xstore_n (L' := [some (pR (some 88)), some (pX ((shI k)))]) dX5_tokenDue_7 (by decide) rfl ?_
  refine J_aload_n dX5_tokenDue_8 rfl ?_
  refine J_getI dX5_tokenDue_9 fX5_169 s88 (fun _ => rfl) ?_
  refine J_cvI (h10) ?_
  refine J_xload_n dX5_tokenDue_12 rfl ?_
  refine J_cXI (e0 := (shI k)) (as := []) (st := [pI (nI c)]) dX5_tokenDue_13 lX5_131 okJ0_length_8abf5 vJ0_length_8abf5 (shI_b k hk) rfl rfl rfl (Nat.le_of_ble_eq_true rfl) ⟨Nat.le_of_ble_eq_true rfl, Nat.le_of_ble_eq_true rfl⟩ CR.f (c_J0_length (shI_b k hk)) (fun vq2 gq2 eq2 => ?_)
  rw [eq2.2, eq2.1]
  refine J_icmp_geN dX5_tokenDue_16 (by omega) (by omega) (fun d1 => ?_) (fun d1 => ?_)
  · refine J_bipush (x := nI 59) dX5_tokenDue_30 (by decide) ?_
    exact J_retI dX5_tokenDue_32 rfl ⟨(due_c k hk c hc).2 (by omega), rfl⟩
  · refine J_xload_n dX5_tokenDue_19 rfl ?_
    refine J_aload_n dX5_tokenDue_20 rfl ?_
    refine J_getI dX5_tokenDue_21 fX5_169 s88 (fun _ => rfl) ?_
    refine J_cvI (h10) ?_
    refine J_cXI (e0 := (shI k)) (as := [pI (nI c)]) (st := []) dX5_tokenDue_24 lX5_136 okJ0_charAt_5068e vJ0_charAt_5068e (shI_b k hk) rfl rfl rfl (Nat.le_of_ble_eq_true rfl) ⟨Nat.le_of_ble_eq_true rfl, Nat.le_of_ble_eq_true rfl⟩ CR.f (c_J0_charAt (shI_b k hk) (by omega)) (fun vq4 gq4 eq4 => ?_)
    rw [eq4.2, eq4.1]
    refine J_goto dX5_tokenDue_27 ?_
    exact J_retI dX5_tokenDue_32 rfl ⟨(due_c k hk c hc).1 (by omega), rfl⟩
theorem c_X5_isTokenText {h : PH} {T : Nat → Int32} {n s e : Nat} (hG : GR h.2.2) (hR : Rt h T n) (hT : Tk h T n s) (hs : s ≤ n) (hK : tkK T n s = 2) (he : e < 7) : CtI mX5_isTokenText h [pR (some 88), pX e] (fun v h' => v = bI (kwT.getD e 0 = tkV T n s) ∧ h' = h) := by
  have hn9 := hR.2.2.2
  have hge := tkE_ge (T := T) (n := n) (s := s)
  have hle := tkE_le (T := T) hs
  have ht := hR.1
  have he' : e < nJS := Nat.lt_of_lt_of_le he (by decide)
  have hlb := lenJS_b e he'
  have hkw := kw_w he hK
  refine Ct.of (L := [some (pR (some 88)), some (pX e), none, none]) rfl rfl (Nat.le_of_ble_eq_true rfl) rfl ?_
  refine J_xload_n dX5_isTokenText_0 rfl ?_
  refine J_cXI (e0 := e) (as := []) (st := []) dX5_isTokenText_1 lX5_131 okJ0_length_8abf5 vJ0_length_8abf5 he' rfl rfl rfl (Nat.le_of_ble_eq_true rfl) ⟨Nat.le_of_ble_eq_true rfl, Nat.le_of_ble_eq_true rfl⟩ CR.f (c_J0_length he') (fun vq1 gq1 eq1 => ?_)
  rw [eq1.2, eq1.1]
  refine J_istore_n (L' := [some (pR (some 88)), some (pX e), some (pI (nI (lenJS.getD e 0))), none]) dX5_isTokenText_4 (by decide) rfl ?_
  refine J_iload_n dX5_isTokenText_5 rfl ?_
  refine J_aload_n dX5_isTokenText_6 rfl ?_
  refine J_getI dX5_isTokenText_7 fX5_39 s88 (fun _ => rfl) ?_
  refine J_cvI (hT.2.1) ?_
  refine J_aload_n dX5_isTokenText_10 rfl ?_
  refine J_getI dX5_isTokenText_11 fX5_52 s88 (fun _ => rfl) ?_
  refine J_cvI (hT.1) ?_
  refine J_isubN dX5_isTokenText_14 (by omega) ?_
  refine J_icmp_eqN dX5_isTokenText_15 (by omega) (by omega) (fun d1 => ?_) (fun d1 => ?_)
  · refine J_iconstN (n := 0) dX5_isTokenText_20 ?_
    refine J_istore_n (L' := [some (pR (some 88)), some (pX e), some (pI (nI (lenJS.getD e 0))), some (pI (nI 0))]) dX5_isTokenText_21 (by decide) rfl ?_
    refine J_L (L' := [some (pR (some 88)), some (pX e), some (pI (nI (lenJS.getD e 0))), some (pI (nI 0))]) rfl ?_
    refine J_forI (α := Unit) (L := fun i1 aa1 => [some (pR (some 88)), some (pX e), some (pI (nI (lenJS.getD e 0))), some (pI (nI i1))]) (fun i1 aa1 h1 => h = h1 ∧ ∀ j, j < i1 → chS e j = T (s + j)) (e := lenJS.getD e 0) (fun aa1 h1 hI1 => ?_) (fun i1 aa1 h1 hi1 hI1 ih1 => ?_) 0 (()) _ (by omega) (⟨rfl, fun j hj => absurd hj (Nat.not_lt_zero j)⟩)
    · show J _ _ _ _ _ [some (pR (some 88)), some (pX e), some (pI (nI (lenJS.getD e 0))), some (pI (nI (lenJS.getD e 0)))] _ _ h1
      obtain ⟨rfl, hJ⟩ := hI1
      refine J_iload_n dX5_isTokenText_22 rfl ?_
      refine J_iload_n dX5_isTokenText_23 rfl ?_
      refine J_icmp_geN dX5_isTokenText_24 (by omega) (by omega) (fun c3 => ?_) (fun c3 => ?_)
      · refine J_iconstN (n := 1) dX5_isTokenText_54 ?_
        exact J_retZ dX5_isTokenText_55 rfl rfl ⟨bI_t (hkw.mpr ⟨by omega, hJ⟩), rfl⟩
      · exact (show False by omega).elim
    · show J _ _ _ _ _ [some (pR (some 88)), some (pX e), some (pI (nI (lenJS.getD e 0))), some (pI (nI i1))] _ _ h1
      obtain ⟨rfl, hJ⟩ := hI1
      refine J_iload_n dX5_isTokenText_22 rfl ?_
      refine J_iload_n dX5_isTokenText_23 rfl ?_
      refine J_icmp_geN dX5_isTokenText_24 (by omega) (by omega) (fun c4 => ?_) (fun c4 => ?_)
      · exact (show False by omega).elim
      · refine J_xload_n dX5_isTokenText_27 rfl ?_
        refine J_iload_n dX5_isTokenText_28 rfl ?_
        refine J_cXI (e0 := e) (as := [pI (nI i1)]) (st := []) dX5_isTokenText_29 lX5_136 okJ0_charAt_5068e vJ0_charAt_5068e he' rfl rfl rfl (Nat.le_of_ble_eq_true rfl) ⟨Nat.le_of_ble_eq_true rfl, Nat.le_of_ble_eq_true rfl⟩ CR.f (c_J0_charAt he' (by omega)) (fun vq5 gq5 eq5 => ?_)
        rw [eq5.2, eq5.1]
        refine J_aload_n dX5_isTokenText_32 rfl ?_
        refine J_getR (r := some 1) dX5_isTokenText_33 fX5_28 s88 (fun _ => rfl) (ht) ?_
        refine J_aload_n dX5_isTokenText_36 rfl ?_
        refine J_getI dX5_isTokenText_37 fX5_52 s88 (fun _ => rfl) ?_
        refine J_cvI (hT.1) ?_
        refine J_iload_n dX5_isTokenText_40 rfl ?_
        refine J_iaddN dX5_isTokenText_41 ?_
        refine J_baldN dX5_isTokenText_42 s1 (by decide) (by omega) ?_
        refine J_cvI ((hR.2.1 _ (by omega))) ?_
        refine J_icmp_eq dX5_isTokenText_43 (fun dc => ?_) (fun dc => ?_)
        · refine J_iincN (n := 1) (L' := [some (pR (some 88)), some (pX e), some (pI (nI (lenJS.getD e 0))), some (pI (nI (i1 + 1)))]) dX5_isTokenText_48 rfl (by decide) rfl ?_
          refine J_goto dX5_isTokenText_51 ?_
          exact ih1 () _ ⟨rfl, fun j hj => (Nat.lt_or_ge j i1).elim (hJ j) (fun z => (by rw [show j = i1 by omega]; exact dc))⟩
        · refine J_iconstN (n := 0) dX5_isTokenText_46 ?_
          exact J_retZ dX5_isTokenText_47 rfl rfl ⟨bI_f (fun y => dc ((hkw.mp y).2 i1 (by omega))), rfl⟩
  · refine J_iconstN (n := 0) dX5_isTokenText_18 ?_
    exact J_retZ dX5_isTokenText_19 rfl rfl ⟨bI_f (fun y => d1 ((hkw.mp y).1)), rfl⟩
theorem c_X5_clauseNamed {h : PH} {T : Nat → Int32} {n s : Nat} (hG : GR h.2.2) (hR : Rt h T n) (hT : Tk h T n s) (hs : s ≤ n) : CtI mX5_clauseNamed h [pR (some 88)] (fun v h' => v = clW (tkK T n s) (tkV T n s) ∧ h' = h) := by
  have hn9 := hR.2.2.2
  have hge := tkE_ge (T := T) (n := n) (s := s)
  have hle := tkE_le (T := T) hs
  have ht := hR.1
  have hkb := tkK_b (T := T) (n := n) (s := s)
  refine Ct.of (L := [some (pR (some 88)), none]) rfl rfl (Nat.le_of_ble_eq_true rfl) rfl ?_
  refine J_aload_n dX5_clauseNamed_0 rfl ?_
  refine J_getI dX5_clauseNamed_1 fX5_55 s88 (fun _ => rfl) ?_
  refine J_cvI (hT.2.2.1) ?_
  refine J_bipush (x := nI 119) dX5_clauseNamed_4 (by decide) ?_
  refine J_icmp_ne dX5_clauseNamed_6 (fun d1 => ?_) (fun d1 => ?_)
  · refine J_iconst (x := -1) dX5_clauseNamed_36 (by decide) ?_
    exact J_retI dX5_clauseNamed_37 rfl ⟨by rw [clW, if_neg (fun y => d1 ((tcd_w hkb).mpr y))], rfl⟩
  · refine J_iconstN (n := 0) dX5_clauseNamed_9 ?_
    refine J_istore_n (L' := [some (pR (some 88)), some (pI (nI 0))]) dX5_clauseNamed_10 (by decide) rfl ?_
    have hK := (tcd_w hkb).mp d1
    refine J_L (L' := [some (pR (some 88)), some (pI (nI 0))]) rfl ?_
    refine J_forI (α := Unit) (L := fun i1 aa1 => [some (pR (some 88)), some (pI (nI i1))]) (fun i1 aa1 h1 => h = h1 ∧ kwF (tkV T n s) i1 = 0) (e := 7) (fun aa1 h1 hI1 => ?_) (fun i1 aa1 h1 hi1 hI1 ih1 => ?_) 0 (()) _ (by omega) (⟨rfl, rfl⟩)
    · show J _ _ _ _ _ [some (pR (some 88)), some (pI (nI 7))] _ _ h1
      obtain ⟨rfl, hJ⟩ := hI1
      refine J_iload_n dX5_clauseNamed_11 rfl ?_
      refine J_bipush (x := nI 7) dX5_clauseNamed_12 (by decide) ?_
      refine J_icmp_geN dX5_clauseNamed_14 (by decide) (by decide) (fun c0 => ?_) (fun c0 => absurd c0 (by decide))
      refine J_iconst (x := -1) dX5_clauseNamed_36 (by decide) ?_
      exact J_retI dX5_clauseNamed_37 rfl ⟨by rw [clW, if_pos hK, kw, hJ]; rfl, rfl⟩
    · show J _ _ _ _ _ [some (pR (some 88)), some (pI (nI i1))] _ _ h1
      obtain ⟨rfl, hJ⟩ := hI1
      refine J_iload_n dX5_clauseNamed_11 rfl ?_
      refine J_bipush (x := nI 7) dX5_clauseNamed_12 (by decide) ?_
      refine J_icmp_geN dX5_clauseNamed_14 (by omega) (by omega) (fun c2 => ?_) (fun c2 => ?_)
      · exact (show False by omega).elim
      · refine J_aload_n dX5_clauseNamed_17 rfl ?_
        refine J_iload_n dX5_clauseNamed_18 rfl ?_
        refine J_cSX (as := [pI (nI i1)]) (st := [pR (some 88)]) dX5_clauseNamed_19 lX5_123 okX5_wordOf sX5_wordOf rfl rfl (Nat.le_of_ble_eq_true rfl) ⟨Nat.le_of_ble_eq_true rfl, Nat.le_of_ble_eq_true rfl⟩ CR.f (c_X5_wordOf (by omega)) (fun vq3 gq3 eq3 => ?_)
        rw [eq3.2, eq3.1]
        refine J_cVI (ci := 5) (c := 88) (as := [pX i1]) (st := []) dX5_clauseNamed_22 lX5_127 okX5_isTokenText vX5_isTokenText s88 (by decide) rfl rfl rfl (Nat.le_of_ble_eq_true rfl) ⟨Nat.le_of_ble_eq_true rfl, Nat.le_of_ble_eq_true rfl⟩ CR.f (c_X5_isTokenText hG hR hT hs hK (by omega)) (fun vq4 gq4 eq4 => ?_)
        rw [eq4.2, eq4.1]
        refine J_if_eqB dX5_clauseNamed_25 (fun dc => ?_) (fun dc => ?_)
        · refine J_iincN (n := 1) (L' := [some (pR (some 88)), some (pI (nI (i1 + 1)))]) dX5_clauseNamed_30 rfl (by decide) rfl ?_
          refine J_goto dX5_clauseNamed_33 ?_
          exact ih1 () _ ⟨rfl, (kwF_s hJ).trans (if_neg dc)⟩
        · refine J_iload_n dX5_clauseNamed_28 rfl ?_
          exact J_retI dX5_clauseNamed_29 rfl ⟨by rw [clW, if_pos hK, kw_at (by omega) hJ dc]; rfl, rfl⟩
