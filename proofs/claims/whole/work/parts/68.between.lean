/-! ===== what is told so far: the class ===== -/
/-- the told numbers are right so far; b bounds the clauses -/
def OkS (S : PS) (b : Nat) : Prop :=
  (((1 ≤ S.1 0 0 0 ∧ S.1 0 0 0 ≤ 5) ∧ S.1 0 1 0 ≤ 99 ∧ S.1 0 2 0 ≤ 4 ∧ S.1 0 3 0 ≤ 4 ∧ S.1 0 4 0 ≤ 6 ∧ S.1 0 5 0 ≤ b) ∧
  (∀ w, w < S.1 0 2 0 → (S.1 1 w 0 ≤ 10 ∧ S.1 1 w 1 + S.1 1 w 2 + S.1 1 w 3 = 10)) ∧
  (∀ t, t < S.1 0 3 0 → (1 ≤ S.1 2 t 0 ∧ S.1 2 t 0 ≤ 9) ∧ S.1 2 t 1 ≤ 99 ∧ S.1 2 t 2 ≤ 99 ∧ S.1 2 t 3 ≤ 500 ∧ S.1 2 t 4 ≤ 99 ∧ (S.1 2 t 5 ≤ 9 ∧ S.1 2 t 5 ≠ 1)) ∧
  (∀ t, t < S.1 0 3 0 → ∀ w, w < 4 → (S.1 3 (4 * t + w) 0 + S.1 3 (4 * t + w) 1 + S.1 3 (4 * t + w) 2 + S.1 3 (4 * t + w) 3 = 10 ∧ S.1 3 (4 * t + w) 4 ≤ 3)) ∧
  (∀ t, t < S.1 0 3 0 → S.1 4 t 0 ≤ S.1 0 3 0 ∧ (S.1 4 t 0 ≠ 0 → S.1 5 t 0 ≤ 100)) ∧
  (∀ f, f < S.1 0 4 0 → S.1 6 f 0 ≤ 10 ∧ (1 ≤ S.1 6 f 1 ∧ S.1 6 f 1 ≤ 500) ∧ S.1 6 f 2 ≤ 500) ∧
  S.2.2.1 0 < 2 ∧ S.2.2.1 1 < 2 ∧ ∀ t, t < S.1 0 3 0 → ∀ w, w < 4 → S.2.2.2 (4 * t + w) < 2) ∧ b ≤ 900
theorem OkS.ok {S : PS} {b : Nat} (a : OkS S b) (w : wOk S.1) : OkP S.1 := by
  obtain ⟨⟨⟨x1, x2, x3, x4, x5, x6⟩, a2, a3, a4, a5, a6, -⟩, hb⟩ := a
  exact ⟨⟨x1, x2, x3, x4, x5, by omega⟩, a2, fun z => w.elim (fun y => absurd y (by omega)) id, a3, a4, a5, a6⟩
/-- a told name: where it stands, how long it is -/
def NmX (h : PH) (T : Nat → Int32) (j V : Nat) : Prop := ∃ a l, h.1 90 j = nI a ∧ h.1 91 j = nI l ∧ a + l ≤ 900 ∧ wvN T a l = V ∧ ∀ i, i < l → cLe (T (a + i)) = true
/-- the Reader's Post at d holds what is told so far -/
def Rp (h : PH) (d : Nat) (T : Nat → Int32) (S : PS) : Prop :=
  (IsPo d ∧ h.2.2 88 5 = some d) ∧ PoX h d S.1 ∧ (h.1 d 6 = nI (S.2.2.1 0) ∧ h.1 d 7 = nI (S.2.2.1 1)) ∧
  (∀ t, t < S.1 0 3 0 → ∀ w, w < 4 → h.1 (d + 9 + 7 * t + 6) w = nI (S.2.2.2 (4 * t + w))) ∧ RuX h d S.1 (fun _ _ => 0) ∧
  ∀ k, (k = 2 ∨ k = 3 ∨ k = 6) → ∀ i, i < cntP S.1 k → NmX h T (k * 6 + i) (S.2.1 k i)
theorem kwFt_1 {S : PS} : kwFt S 1 = if S.2.2.1 0 = 1 then 3 else if 0 < S.1 0 5 0 then 6 else 0 := rfl
theorem kwFt_2 {S : PS} : kwFt S 2 = if S.2.2.1 1 = 1 then 3 else 0 := rfl
theorem kwFt_3 {S : PS} : kwFt S 3 = if S.1 0 2 0 < 4 then 0 else 4 := rfl
theorem kwFt_4 {S : PS} : kwFt S 4 = if S.1 0 3 0 < 4 then 0 else 4 := rfl
theorem kwFt_5 {S : PS} : kwFt S 5 = 0 := rfl
theorem kwFt_6 {S : PS} : kwFt S 6 = 0 := rfl
theorem kwFt_7 {S : PS} : kwFt S 7 = if S.1 0 4 0 < 6 then 0 else 4 := rfl
theorem btw_t {S : PS} {K V : Nat} (hK : K = 0) (h : wOk S.1) : btwF S K V = 0 := by
  unfold btwF
  rw [if_pos hK, if_pos h]
theorem btw_f {S : PS} {K V : Nat} (hK : K = 0) (h : ¬ wOk S.1) : btwF S K V = 7 := by
  unfold btwF
  rw [if_pos hK, if_neg h]
theorem kw_le {V : Nat} : kw V ≤ 7 := kwF_in 7
theorem clW_c {K V : Nat} : (K ≠ 2 ∨ kw V = 0) ∧ (clW K V).toInt = -1 ∨ K = 2 ∧ kw V ≠ 0 ∧ (clW K V).toInt = (kw V : Int) - 1 := by
  have b := kw_le (V := V)
  unfold clW
  by_cases q : K = 2
  · rw [if_pos q]
    by_cases z : kw V = 0
    · rw [z]
      exact Or.inl ⟨Or.inr rfl, rfl⟩
    · rw [hlp_p z, nI_toInt (by omega)]
      exact Or.inr ⟨q, z, by omega⟩
  · rw [if_neg q]
    exact Or.inl ⟨Or.inl q, rfl⟩
theorem btw_m {S : PS} {K V : Nat} (hK : K ≠ 0) (h : (clW K V).toInt = -1) : btwF S K V = 1 := by
  unfold btwF
  rw [if_neg hK]
  have c := clW_c (K := K) (V := V)
  by_cases q : K = 2
  · have z : kw V = 0 := by omega
    rw [if_pos q, z]
    rfl
  · rw [if_neg q]
theorem btw_c {S : PS} {K V j : Nat} (hK : K ≠ 0) (h : (clW K V).toInt = (j : Int)) : btwF S K V = kwFt S (j + 1) := by
  unfold btwF
  have c := clW_c (K := K) (V := V)
  rw [if_neg hK, if_pos (by omega), show kw V = j + 1 by omega]
theorem c_X4_areWeightsTen {h : PH} {d W : Nat} {x : Nat → Nat} (hG : GR h.2.2) (hd : IsPo d) (h3 : h.1 d 3 = nI W) (hW : W ≤ 4) (hx : ∀ w, w < W → h.2.1 (d + 1) w = lN (x w)) (hb : ∀ w, w < W → x w ≤ 10) : CtI mX4_areWeightsTen h [pR (some d)] (fun v h' => v = bI (W = 0 ∨ sm x W = 10) ∧ h' = h) := by
  have hq := sm_b W hb
  refine Ct.of (L := [some (pR (some d)), none, none, none]) rfl rfl (Nat.le_of_ble_eq_true rfl) rfl ?_
  refine J_lconst (x := 0) dX4_areWeightsTen_0 rfl ?_
  refine J_lstore_n (L' := [some (pR (some d)), some (pL 0), none, none]) dX4_areWeightsTen_1 (by decide) rfl ?_
  refine J_iconstN (n := 0) dX4_areWeightsTen_2 ?_
  refine J_istore_n (L' := [some (pR (some d)), some (pL 0), none, some (pI (nI 0))]) dX4_areWeightsTen_3 (by decide) rfl ?_
  refine J_L (L' := [some (pR (some d)), some (pL (lN (sm x 0))), none, some (pI (nI 0))]) rfl ?_
  refine J_for (L := fun i1 => [some (pR (some d)), some (pL (lN (sm x i1))), none, some (pI (nI i1))]) (hf := fun i1 => h) (e := W) ?_ (fun i1 hi1 ih1 => ?_) 0 (by omega)
  · show J _ _ _ _ _ [some (pR (some d)), some (pL (lN (sm x W))), none, some (pI (nI W))] _ _ (h)
    refine J_iload_n dX4_areWeightsTen_4 rfl ?_
    refine J_aload_n dX4_areWeightsTen_5 rfl ?_
    refine J_getI dX4_areWeightsTen_6 fX4_47 hd.s (fun _ => rfl) ?_
    refine J_cvI (h3) ?_
    refine J_icmp_geN dX4_areWeightsTen_9 (by omega) (by omega) (fun c1 => ?_) (fun c1 => ?_)
    · refine J_aload_n dX4_areWeightsTen_27 rfl ?_
      refine J_getI dX4_areWeightsTen_28 fX4_47 hd.s (fun _ => rfl) ?_
      refine J_cvI (h3) ?_
      refine J_if_eqN dX4_areWeightsTen_31 (by omega) (fun d1 => ?_) (fun d1 => ?_)
      · refine J_iconstN (n := 1) dX4_areWeightsTen_42 ?_
        refine J_goto dX4_areWeightsTen_43 ?_
        exact J_retZ dX4_areWeightsTen_47 rfl rfl ⟨bI_t (Or.inl d1), rfl⟩
      · refine J_lload_n dX4_areWeightsTen_34 rfl ?_
        refine J_ldc2 dX4_areWeightsTen_35 kX4_63 ?_
        refine J_cvL (y := lN 10) (by decide) ?_
        refine J_lcmp dX4_areWeightsTen_38 ?_
        refine J_lif_ne dX4_areWeightsTen_39 (fun d2 => ?_) (fun d2 => ?_)
        · refine J_iconstN (n := 0) dX4_areWeightsTen_46 ?_
          exact J_retZ dX4_areWeightsTen_47 rfl rfl ⟨bI_f (fun y => y.elim d1 (fun z => d2 ((pk_lEQ (by omega) (by decide)).mpr z))), rfl⟩
        · refine J_iconstN (n := 1) dX4_areWeightsTen_42 ?_
          refine J_goto dX4_areWeightsTen_43 ?_
          exact J_retZ dX4_areWeightsTen_47 rfl rfl ⟨bI_t (Or.inr ((pk_lEQ (by omega) (by decide)).mp d2)), rfl⟩
    · exact (show False by omega).elim
  · show J _ _ _ _ _ [some (pR (some d)), some (pL (lN (sm x i1))), none, some (pI (nI i1))] _ _ (h)
    refine J_iload_n dX4_areWeightsTen_4 rfl ?_
    refine J_aload_n dX4_areWeightsTen_5 rfl ?_
    refine J_getI dX4_areWeightsTen_6 fX4_47 hd.s (fun _ => rfl) ?_
    refine J_cvI (h3) ?_
    refine J_icmp_geN dX4_areWeightsTen_9 (by omega) (by omega) (fun c4 => ?_) (fun c4 => ?_)
    · exact (show False by omega).elim
    · refine J_lload_n dX4_areWeightsTen_12 rfl ?_
      refine J_aload_n dX4_areWeightsTen_13 rfl ?_
      refine J_getR (r := some (d + 1)) dX4_areWeightsTen_14 fX4_9 hd.s (fun _ => rfl) (hd.e8 hG) ?_
      refine J_iload_n dX4_areWeightsTen_17 rfl ?_
      refine J_laldN dX4_areWeightsTen_18 hd.s1 (by decide) (by omega) ?_
      refine J_cvL ((hx i1 (by omega))) ?_
      refine J_ladd dX4_areWeightsTen_19 ?_
      refine J_cvL (lN_add _ _) ?_
      refine J_lstore_n (L' := [some (pR (some d)), some (pL (lN (sm x i1 + x i1))), none, some (pI (nI i1))]) dX4_areWeightsTen_20 (by decide) rfl ?_
      refine J_iincN (n := 1) (L' := [some (pR (some d)), some (pL (lN (sm x i1 + x i1))), none, some (pI (nI (i1 + 1)))]) dX4_areWeightsTen_21 rfl (by decide) rfl ?_
      refine J_goto dX4_areWeightsTen_24 ?_
      exact ih1
theorem c_X5_faultOfWeeks {h : PH} {T : Nat → Int32} {d b : Nat} {S : PS} (hG : GR h.2.2) (hS : Rp h d T S) (hO : OkS S b) : CtI mX5_faultOfWeeks h [pR (some 88)] (fun v h' => v = nI (kwFt S 1) ∧ h' = h) := by
  obtain ⟨⟨-, -, w4, t4, f6, b5⟩, -, -, -, -, -, g2, g3, g4⟩ := id hO.1
  have b9 := hO.2
  refine Ct.of (L := [some (pR (some 88))]) rfl rfl (Nat.le_of_ble_eq_true rfl) rfl ?_
  refine J_aload_n dX5_faultOfWeeks_0 rfl ?_
  refine J_getR (r := some d) dX5_faultOfWeeks_1 fX5_35 s88 (fun _ => rfl) (hS.1.2) ?_
  refine J_getI dX5_faultOfWeeks_4 fX5_117 hS.1.1.s (fun _ => rfl) ?_
  refine J_cvI (hS.2.2.1.1) ?_
  refine J_if_eqN dX5_faultOfWeeks_7 (by omega) (fun c1 => ?_) (fun c1 => ?_)
  · refine J_aload_n dX5_faultOfWeeks_12 rfl ?_
    refine J_getR (r := some d) dX5_faultOfWeeks_13 fX5_35 s88 (fun _ => rfl) (hS.1.2) ?_
    refine J_getI dX5_faultOfWeeks_16 fX5_120 hS.1.1.s (fun _ => rfl) ?_
    refine J_cvI (hS.2.1.1.2.2.1) ?_
    refine J_if_leN dX5_faultOfWeeks_19 (by omega) (fun c2 => ?_) (fun c2 => ?_)
    · refine J_iconstN (n := 0) dX5_faultOfWeeks_27 ?_
      exact J_retI dX5_faultOfWeeks_28 rfl ⟨by rw [kwFt_1, if_neg (by omega), if_neg (by omega)], rfl⟩
    · refine J_bipush (x := nI 6) dX5_faultOfWeeks_22 (by decide) ?_
      refine J_goto dX5_faultOfWeeks_24 ?_
      exact J_retI dX5_faultOfWeeks_28 rfl ⟨by rw [kwFt_1, if_neg (by omega), if_pos (by omega)], rfl⟩
  · refine J_iconstN (n := 3) dX5_faultOfWeeks_10 ?_
    exact J_retI dX5_faultOfWeeks_11 rfl ⟨by rw [kwFt_1, if_pos (by omega)], rfl⟩
theorem c_X5_faultBetween {h : PH} {T : Nat → Int32} {n s d b : Nat} {S : PS} (hG : GR h.2.2) (hR : Rt h T n) (hT : Tk h T n s) (hs : s ≤ n) (hS : Rp h d T S) (hO : OkS S b) : CtI mX5_faultBetween h [pR (some 88)] (fun v h' => v = nI (btwF S (tkK T n s) (tkV T n s)) ∧ h' = h) := by
  have hn9 := hR.2.2.2
  have hge := tkE_ge (T := T) (n := n) (s := s)
  have hle := tkE_le (T := T) hs
  have ht := hR.1
  obtain ⟨⟨-, -, w4, t4, f6, b5⟩, -, -, -, -, -, g2, g3, g4⟩ := id hO.1
  have b9 := hO.2
  have hkb := tkK_b (T := T) (n := n) (s := s)
  have hcl := clW_c (K := tkK T n s) (V := tkV T n s)
  have hkl := kw_le (V := tkV T n s)
  refine Ct.of (L := [some (pR (some 88))]) rfl rfl (Nat.le_of_ble_eq_true rfl) rfl ?_
  refine J_aload_n dX5_faultBetween_0 rfl ?_
  refine J_getI dX5_faultBetween_1 fX5_55 s88 (fun _ => rfl) ?_
  refine J_cvI (hT.2.2.1) ?_
  refine J_if_ne dX5_faultBetween_4 (fun d1 => ?_) (fun d1 => ?_)
  · refine J_aload_n dX5_faultBetween_24 rfl ?_
    refine J_cVI (ci := 5) (c := 88) (as := []) (st := []) dX5_faultBetween_25 lX5_98 okX5_clauseNamed vX5_clauseNamed s88 (by decide) rfl rfl rfl (Nat.le_of_ble_eq_true rfl) ⟨Nat.le_of_ble_eq_true rfl, Nat.le_of_ble_eq_true rfl⟩ CR.f (c_X5_clauseNamed hG hR hT hs) (fun vq2 gq2 eq2 => ?_)
    rw [eq2.2, eq2.1]
    by_cases dt : (clW (tkK T n s) (tkV T n s)).toInt = -1
    · refine J_tabIn (tgt := 76) (-1) dX5_faultBetween_28 dt (by decide) (by decide) rfl rfl ?_
      refine J_iconstN (n := 1) dX5_faultBetween_76 ?_
      exact J_retI dX5_faultBetween_77 rfl ⟨by rw [btw_m (fun z => d1 ((tcd_0 hkb).mpr z)) dt], rfl⟩
    have dt_0 := dt
    clear dt
    by_cases dt : (clW (tkK T n s) (tkV T n s)).toInt = 0
    · refine J_tabIn (tgt := 78) (0) dX5_faultBetween_28 dt (by decide) (by decide) rfl rfl ?_
      refine J_aload_n dX5_faultBetween_78 rfl ?_
      refine J_cVI (ci := 5) (c := 88) (as := []) (st := []) dX5_faultBetween_79 lX5_101 okX5_faultOfWeeks vX5_faultOfWeeks s88 (by decide) rfl rfl rfl (Nat.le_of_ble_eq_true rfl) ⟨Nat.le_of_ble_eq_true rfl, Nat.le_of_ble_eq_true rfl⟩ CR.f (c_X5_faultOfWeeks hG hS hO) (fun vq3 gq3 eq3 => ?_)
      rw [eq3.2, eq3.1]
      exact J_retI dX5_faultBetween_82 rfl ⟨by rw [btw_c (j := 0) (fun z => d1 ((tcd_0 hkb).mpr z)) dt], rfl⟩
    have dt_1 := dt
    clear dt
    by_cases dt : (clW (tkK T n s) (tkV T n s)).toInt = 1
    · refine J_tabIn (tgt := 83) (1) dX5_faultBetween_28 dt (by decide) (by decide) rfl rfl ?_
      refine J_aload_n dX5_faultBetween_83 rfl ?_
      refine J_getR (r := some d) dX5_faultBetween_84 fX5_35 s88 (fun _ => rfl) (hS.1.2) ?_
      refine J_getI dX5_faultBetween_87 fX5_104 hS.1.1.s (fun _ => rfl) ?_
      refine J_cvI (hS.2.2.1.2) ?_
      refine J_if_eqN dX5_faultBetween_90 (by omega) (fun c4 => ?_) (fun c4 => ?_)
      · refine J_iconstN (n := 0) dX5_faultBetween_97 ?_
        exact J_retI dX5_faultBetween_98 rfl ⟨by rw [btw_c (j := 1) (fun z => d1 ((tcd_0 hkb).mpr z)) dt, kwFt_2, if_neg (by omega)], rfl⟩
      · refine J_iconstN (n := 3) dX5_faultBetween_93 ?_
        refine J_goto dX5_faultBetween_94 ?_
        exact J_retI dX5_faultBetween_98 rfl ⟨by rw [btw_c (j := 1) (fun z => d1 ((tcd_0 hkb).mpr z)) dt, kwFt_2, if_pos (by omega)], rfl⟩
    have dt_2 := dt
    clear dt
    by_cases dt : (clW (tkK T n s) (tkV T n s)).toInt = 2
    · refine J_tabIn (tgt := 99) (2) dX5_faultBetween_28 dt (by decide) (by decide) rfl rfl ?_
      refine J_aload_n dX5_faultBetween_99 rfl ?_
      refine J_getR (r := some d) dX5_faultBetween_100 fX5_35 s88 (fun _ => rfl) (hS.1.2) ?_
      refine J_getI dX5_faultBetween_103 fX5_108 hS.1.1.s (fun _ => rfl) ?_
      refine J_cvI (hS.2.1.1.2.2.2.1) ?_
      refine J_iconstN (n := 4) dX5_faultBetween_106 ?_
      refine J_icmp_geN dX5_faultBetween_107 (by omega) (by omega) (fun c5 => ?_) (fun c5 => ?_)
      · refine J_iconstN (n := 4) dX5_faultBetween_114 ?_
        exact J_retI dX5_faultBetween_115 rfl ⟨by rw [btw_c (j := 2) (fun z => d1 ((tcd_0 hkb).mpr z)) dt, kwFt_3, if_neg (by omega)], rfl⟩
      · refine J_iconstN (n := 0) dX5_faultBetween_110 ?_
        refine J_goto dX5_faultBetween_111 ?_
        exact J_retI dX5_faultBetween_115 rfl ⟨by rw [btw_c (j := 2) (fun z => d1 ((tcd_0 hkb).mpr z)) dt, kwFt_3, if_pos (by omega)], rfl⟩
    have dt_3 := dt
    clear dt
    by_cases dt : (clW (tkK T n s) (tkV T n s)).toInt = 3
    · refine J_tabIn (tgt := 116) (3) dX5_faultBetween_28 dt (by decide) (by decide) rfl rfl ?_
      refine J_aload_n dX5_faultBetween_116 rfl ?_
      refine J_getR (r := some d) dX5_faultBetween_117 fX5_35 s88 (fun _ => rfl) (hS.1.2) ?_
      refine J_getI dX5_faultBetween_120 fX5_111 hS.1.1.s (fun _ => rfl) ?_
      refine J_cvI (hS.2.1.1.2.2.2.2.1) ?_
      refine J_iconstN (n := 4) dX5_faultBetween_123 ?_
      refine J_icmp_geN dX5_faultBetween_124 (by omega) (by omega) (fun c6 => ?_) (fun c6 => ?_)
      · refine J_iconstN (n := 4) dX5_faultBetween_131 ?_
        exact J_retI dX5_faultBetween_132 rfl ⟨by rw [btw_c (j := 3) (fun z => d1 ((tcd_0 hkb).mpr z)) dt, kwFt_4, if_neg (by omega)], rfl⟩
      · refine J_iconstN (n := 0) dX5_faultBetween_127 ?_
        refine J_goto dX5_faultBetween_128 ?_
        exact J_retI dX5_faultBetween_132 rfl ⟨by rw [btw_c (j := 3) (fun z => d1 ((tcd_0 hkb).mpr z)) dt, kwFt_4, if_pos (by omega)], rfl⟩
    have dt_4 := dt
    clear dt
    by_cases dt : (clW (tkK T n s) (tkV T n s)).toInt = 4
    · refine J_tabIn (tgt := 151) (4) dX5_faultBetween_28 dt (by decide) (by decide) rfl rfl ?_
      refine J_iconstN (n := 0) dX5_faultBetween_151 ?_
      exact J_retI dX5_faultBetween_152 rfl ⟨by rw [btw_c (j := 4) (fun z => d1 ((tcd_0 hkb).mpr z)) dt, kwFt_5], rfl⟩
    have dt_5 := dt
    clear dt
    by_cases dt : (clW (tkK T n s) (tkV T n s)).toInt = 5
    · refine J_tabIn (tgt := 151) (5) dX5_faultBetween_28 dt (by decide) (by decide) rfl rfl ?_
      refine J_iconstN (n := 0) dX5_faultBetween_151 ?_
      exact J_retI dX5_faultBetween_152 rfl ⟨by rw [btw_c (j := 5) (fun z => d1 ((tcd_0 hkb).mpr z)) dt, kwFt_6], rfl⟩
    have dt_6 := dt
    clear dt
    by_cases dt : (clW (tkK T n s) (tkV T n s)).toInt = 6
    · refine J_tabIn (tgt := 133) (6) dX5_faultBetween_28 dt (by decide) (by decide) rfl rfl ?_
      refine J_aload_n dX5_faultBetween_133 rfl ?_
      refine J_getR (r := some d) dX5_faultBetween_134 fX5_35 s88 (fun _ => rfl) (hS.1.2) ?_
      refine J_getI dX5_faultBetween_137 fX5_114 hS.1.1.s (fun _ => rfl) ?_
      refine J_cvI (hS.2.1.1.2.2.2.2.2) ?_
      refine J_bipush (x := nI 6) dX5_faultBetween_140 (by decide) ?_
      refine J_icmp_geN dX5_faultBetween_142 (by omega) (by omega) (fun c7 => ?_) (fun c7 => ?_)
      · refine J_iconstN (n := 4) dX5_faultBetween_149 ?_
        exact J_retI dX5_faultBetween_150 rfl ⟨by rw [btw_c (j := 6) (fun z => d1 ((tcd_0 hkb).mpr z)) dt, kwFt_7, if_neg (by omega)], rfl⟩
      · refine J_iconstN (n := 0) dX5_faultBetween_145 ?_
        refine J_goto dX5_faultBetween_146 ?_
        exact J_retI dX5_faultBetween_150 rfl ⟨by rw [btw_c (j := 6) (fun z => d1 ((tcd_0 hkb).mpr z)) dt, kwFt_7, if_pos (by omega)], rfl⟩
    have dt_7 := dt
    clear dt
    exact absurd hcl (by omega)
  · refine J_aload_n dX5_faultBetween_7 rfl ?_
    refine J_getR (r := some d) dX5_faultBetween_8 fX5_35 s88 (fun _ => rfl) (hS.1.2) ?_
    refine J_cVI (ci := 4) (c := d) (as := []) (st := []) dX5_faultBetween_11 lX5_92 okX4_areWeightsTen vX4_areWeightsTen hS.1.1.s (by decide) rfl rfl rfl (Nat.le_of_ble_eq_true rfl) ⟨Nat.le_of_ble_eq_true rfl, Nat.le_of_ble_eq_true rfl⟩ CR.f (c_X4_areWeightsTen hG hS.1.1 hS.2.1.1.2.2.2.1 (by omega) hS.2.1.2.1 (fun w hw => (hO.1.2.1 w hw).1)) (fun vq8 gq8 eq8 => ?_)
    rw [eq8.2, eq8.1]
    refine J_if_eqB dX5_faultBetween_14 (fun d0 => ?_) (fun d0 => ?_)
    · refine J_bipush (x := nI 7) dX5_faultBetween_21 (by decide) ?_
      exact J_retI dX5_faultBetween_23 rfl ⟨by rw [btw_f ((tcd_0 hkb).mp d1) d0], rfl⟩
    · refine J_iconstN (n := 0) dX5_faultBetween_17 ?_
      refine J_goto dX5_faultBetween_18 ?_
      exact J_retI dX5_faultBetween_23 rfl ⟨by rw [btw_t ((tcd_0 hkb).mp d1) d0], rfl⟩
