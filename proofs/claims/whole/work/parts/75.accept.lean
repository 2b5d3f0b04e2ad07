/-! ===== settled clauses, accepted names ===== -/
theorem nameF_z {S : PS} {k c V : Nat} {num : Nat → Nat} (hc : c < 2) (h : nameF S k c V num = 0) : (k = 4 → c = 1 → fdN (S.2.1 2) V (S.1 0 2 0) ≠ 0) ∧ (k = 4 → c = 0 → fdN (S.2.1 3) V (S.1 0 3 0) ≠ 0) ∧ (k = 5 → fdN (S.2.1 3) V (S.1 0 3 0) ≠ 0) := by
  unfold nameF at h
  refine ⟨fun q1 q2 z => ?_, fun q1 q2 z => ?_, fun q1 z => ?_⟩
  · rw [if_pos q1, if_neg (by omega), if_pos z] at h
    exact absurd h (by decide)
  · rw [if_pos q1, if_pos q2, knF, if_pos z] at h
    exact absurd h (by decide)
  · by_cases y : c = 0
    · rw [if_neg (by omega), if_pos q1, if_pos y, knF, if_pos z] at h
      exact absurd h (by decide)
    · rw [if_neg (by omega), if_pos q1, if_neg y, if_pos z] at h
      exact absurd h (by decide)
theorem Rp.fr {h h' : PH} {d b : Nat} {T : Nat → Int32} {S : PS} (a : Rp h d T S) (hO : OkS S b) (F : ∀ c k, c < 88 ∨ c = 90 ∨ c = 91 → h'.1 c k = h.1 c k) (r : h'.2 = h.2) : Rp h' d T S := by
  have p := a.1.1.b
  obtain ⟨⟨-, -, w4, t4, f6, -⟩, -⟩ := id hO.1
  obtain ⟨a1, ⟨⟨x0, x1, x2, x3, x4, x5⟩, a3, a4, a5, a6, a7, a8⟩, ⟨a9, a10⟩, a11, a12, a13⟩ := a
  exact ⟨⟨a1.1, by rw [r]; exact a1.2⟩, ⟨⟨(F _ _ (by omega)).trans x0, (F _ _ (by omega)).trans x1, (F _ _ (by omega)).trans x2, (F _ _ (by omega)).trans x3, (F _ _ (by omega)).trans x4, (F _ _ (by omega)).trans x5⟩, fun w hw => by rw [r]; exact a3 w hw, fun w hw k hk => (F _ _ (by omega)).trans (a4 w hw k hk), fun t ht k hk => (F _ _ (by omega)).trans (a5 t ht k hk), fun t ht w hw k hk => (F _ _ (by omega)).trans (a6 t ht w hw k hk), fun t ht => ⟨(F _ _ (by omega)).trans (a7 t ht).1, fun z => (F _ _ (by omega)).trans ((a7 t ht).2 z)⟩, fun t ht k hk => (F _ _ (by omega)).trans (a8 t ht k hk)⟩, ⟨(F _ _ (by omega)).trans a9, (F _ _ (by omega)).trans a10⟩, fun t ht w hw => (F _ _ (by omega)).trans (a11 t ht w hw), fun t ht => ⟨(F _ _ (by omega)).trans (a12 t ht).1, (F _ _ (by omega)).trans (a12 t ht).2⟩, fun k hk i hi => (a13 k hk i hi).e (F _ _ (by omega)) (F _ _ (by omega))⟩
theorem Rp.nmd {h h' : PH} {d b k V : Nat} {T : Nat → Int32} {S : PS} (a : Rp h d T S) (hO : OkS S b) (hk : k = 2 ∨ k = 3 ∨ k = 6) (hr : cntP S.1 k < 6) (F : ∀ c k, c < 88 → h'.1 c k = h.1 c k) (n0 : ∀ j, j ≠ k * 6 + cntP S.1 k → h'.1 90 j = h.1 90 j) (n1 : ∀ j, j ≠ k * 6 + cntP S.1 k → h'.1 91 j = h.1 91 j) (r : h'.2 = h.2) : Rp h' d T (nameS S k V) := by
  have p := a.1.1.b
  obtain ⟨⟨-, -, w4, t4, f6, -⟩, -⟩ := id hO.1
  have hcb := fun k => cnt_b (k := k) hO
  obtain ⟨a1, ⟨⟨x0, x1, x2, x3, x4, x5⟩, a3, a4, a5, a6, a7, a8⟩, ⟨a9, a10⟩, a11, a12, a13⟩ := a
  rw [nameS, if_neg (by omega)]
  refine ⟨⟨a1.1, by rw [r]; exact a1.2⟩, ⟨⟨(F _ _ (by omega)).trans x0, (F _ _ (by omega)).trans x1, (F _ _ (by omega)).trans x2, (F _ _ (by omega)).trans x3, (F _ _ (by omega)).trans x4, (F _ _ (by omega)).trans x5⟩, fun w hw => by rw [r]; exact a3 w hw, fun w (hw : w < S.1 0 2 0) k hk => (F _ _ (by omega)).trans (a4 w hw k hk), fun t (ht : t < S.1 0 3 0) k hk => (F _ _ (by omega)).trans (a5 t ht k hk), fun t (ht : t < S.1 0 3 0) w hw k hk => (F _ _ (by omega)).trans (a6 t ht w hw k hk), fun t (ht : t < S.1 0 3 0) => ⟨(F _ _ (by omega)).trans (a7 t ht).1, fun z => (F _ _ (by omega)).trans ((a7 t ht).2 z)⟩, fun t (ht : t < S.1 0 4 0) k hk => (F _ _ (by omega)).trans (a8 t ht k hk)⟩, ⟨(F _ _ (by omega)).trans a9, (F _ _ (by omega)).trans a10⟩, fun t (ht : t < S.1 0 3 0) w hw => (F _ _ (by omega)).trans (a11 t ht w hw), fun t (ht : t < S.1 0 3 0) => ⟨(F _ _ (by omega)).trans (a12 t ht).1, (F _ _ (by omega)).trans (a12 t ht).2⟩, fun k' hk' i (hi : i < cntP S.1 k') => ?_⟩
  have c6 := hcb k'
  by_cases q : k' = k
  · subst q
    show NmX h' T (k' * 6 + i) (if k' = k' ∧ i = cntP S.1 k' then V else S.2.1 k' i)
    rw [if_neg (by omega)]
    exact (a13 k' hk' i hi).e (n0 _ (by omega)) (n1 _ (by omega))
  · show NmX h' T (k' * 6 + i) (if k' = k ∧ i = cntP S.1 k then V else S.2.1 k' i)
    rw [if_neg (fun z => q z.1)]
    exact (a13 k' hk' i hi).e (n0 _ (by omega)) (n1 _ (by omega))
theorem c_X5_settleClause {h : PH} {T : Nat → Int32} {d b k : Nat} {S : PS} {num : Nat → Nat} (hG : GR h.2.2) (hS : Rp h d T S) (hO : OkS S b) (hk : k < 7) (h9 : h.1 88 9 = nI k) (hL : ∀ i, i < lenS k → h.1 89 i = nI (num i)) (hQ : ∀ i, i < lenS k → nOk S.1 k i num) (hm2 : k = 2 → S.1 0 2 0 < 4) (hm3 : k = 3 → S.1 0 3 0 < 4) (hm6 : k = 6 → S.1 0 4 0 < 6) (nm : (k = 2 ∨ k = 3 ∨ k = 6) → NmX h T (k * 6 + cntP S.1 k) (S.2.1 k (cntP S.1 k))) : CtV mX5_settleClause h [pR (some 88)] (fun h' => Rp h' d T (setS S k num) ∧ Rs d h h') := by
  have hpb := hS.1.1.b
  obtain ⟨⟨-, -, w4, t4, f6, b5⟩, -, -, -, -, -, g2, g3, g4⟩ := id hO.1
  have b9 := hO.2
  refine Ct.of (L := [some (pR (some 88))]) rfl rfl (Nat.le_of_ble_eq_true rfl) rfl ?_
  refine J_aload_n dX5_settleClause_0 rfl ?_
  refine J_getI dX5_settleClause_1 fX5_42 s88 (fun _ => rfl) ?_
  refine J_cvI (h9) ?_
  by_cases dt : (nI k).toInt = 0
  · have edt : k = 0 := (by rw [nI_toInt (by omega)] at dt; omega)
    subst edt
    have hN : ∀ i, i < 1 → h.1 89 i = nI (num i) := hL
    have hB : ∀ i, i < 1 → num i ≤ 500 := fun i hi => (hQ i hi).1
    refine J_tabIn (tgt := 44) (0) dX5_settleClause_4 dt (by decide) (by decide) rfl rfl ?_
    refine J_aload_n dX5_settleClause_44 rfl ?_
    refine J_getR (r := some d) dX5_settleClause_45 fX5_35 s88 (fun _ => rfl) (hS.1.2) ?_
    refine J_aload_n dX5_settleClause_48 rfl ?_
    refine J_getR (r := some 89) dX5_settleClause_49 fX5_18 s88 (fun _ => rfl) (g88_11 hG) ?_
    refine J_iconstN (n := 0) dX5_settleClause_52 ?_
    refine J_ialdN dX5_settleClause_53 s89 (by decide) (by omega) ?_
    refine J_cvI ((hN _ (by omega))) ?_
    refine J_putI dX5_settleClause_54 fX5_221 hS.1.1.s rfl (vp_nar_int _) rfl (fun _ _ => rfl) ?_
    refine J_aload_n dX5_settleClause_57 rfl ?_
    refine J_getR (r := some d) dX5_settleClause_58 fX5_35 s88 (fun _ => rfl) ((xRI).trans (hS.1.2)) ?_
    refine J_iconstN (n := 1) dX5_settleClause_61 ?_
    refine J_putI dX5_settleClause_62 fX5_117 hS.1.1.s rfl rfl rfl (fun _ _ => rfl) ?_
    refine J_goto dX5_settleClause_65 ?_
    exact J_retV dX5_settleClause_214 rfl ⟨hS.wk hO (fun c k z => (rI_c (by omega)).trans ((rI_c (by omega)))) (fun k z1 z2 => (rI_k z2).trans ((rI_k z1))) ((rI_k (by decide)).trans (rI_s)) (rI_s) rfl, ((Rs.rf).tr (Rs.s (by omega) (by omega))).tr (Rs.s (by omega) (by omega))⟩
  have dt_0 : ¬ k = 0 := fun z => dt (by rw [nI_toInt (by omega)]; omega)
  clear dt
  by_cases dt : (nI k).toInt = 1
  · have edt : k = 1 := (by rw [nI_toInt (by omega)] at dt; omega)
    subst edt
    have hN : ∀ i, i < 1 → h.1 89 i = nI (num i) := hL
    have hB : ∀ i, i < 1 → num i ≤ 500 := fun i hi => (hQ i hi).1
    refine J_tabIn (tgt := 68) (1) dX5_settleClause_4 dt (by decide) (by decide) rfl rfl ?_
    refine J_aload_n dX5_settleClause_68 rfl ?_
    refine J_getR (r := some d) dX5_settleClause_69 fX5_35 s88 (fun _ => rfl) (hS.1.2) ?_
    refine J_aload_n dX5_settleClause_72 rfl ?_
    refine J_getR (r := some 89) dX5_settleClause_73 fX5_18 s88 (fun _ => rfl) (g88_11 hG) ?_
    refine J_iconstN (n := 0) dX5_settleClause_76 ?_
    refine J_ialdN dX5_settleClause_77 s89 (by decide) (by omega) ?_
    refine J_cvI ((hN _ (by omega))) ?_
    refine J_putI dX5_settleClause_78 fX5_223 hS.1.1.s rfl (vp_nar_int _) rfl (fun _ _ => rfl) ?_
    refine J_aload_n dX5_settleClause_81 rfl ?_
    refine J_getR (r := some d) dX5_settleClause_82 fX5_35 s88 (fun _ => rfl) ((xRI).trans (hS.1.2)) ?_
    refine J_iconstN (n := 1) dX5_settleClause_85 ?_
    refine J_putI dX5_settleClause_86 fX5_104 hS.1.1.s rfl rfl rfl (fun _ _ => rfl) ?_
    refine J_goto dX5_settleClause_89 ?_
    exact J_retV dX5_settleClause_214 rfl ⟨hS.cs hO (fun c k z => (rI_c (by omega)).trans ((rI_c (by omega)))) (fun k z1 z2 => (rI_k z2).trans ((rI_k z1))) ((rI_k (by decide)).trans (rI_s)) (rI_s) rfl, ((Rs.rf).tr (Rs.s (by omega) (by omega))).tr (Rs.s (by omega) (by omega))⟩
  have dt_1 : ¬ k = 1 := fun z => dt (by rw [nI_toInt (by omega)]; omega)
  clear dt
  by_cases dt : (nI k).toInt = 2
  · have edt : k = 2 := (by rw [nI_toInt (by omega)] at dt; omega)
    subst edt
    have hN : ∀ i, i < 5 → h.1 89 i = nI (num i) := hL
    have hB : ∀ i, i < 5 → num i ≤ 500 := fun i hi => (hQ i hi).1
    have hm : num 0 = S.1 0 2 0 := (hQ 0 (by decide)).2.2.1 (by decide) rfl
    have hm4 := hm2 rfl
    have nm1 := nm (by decide)
    refine J_tabIn (tgt := 92) (2) dX5_settleClause_4 dt (by decide) (by decide) rfl rfl ?_
    refine J_aload_n dX5_settleClause_92 rfl ?_
    refine J_cVV (ci := 5) (c := 88) (as := []) (st := []) dX5_settleClause_93 lX5_225 okX5_settleWinter vX5_settleWinter s88 (by decide) rfl rfl rfl (Nat.le_of_ble_eq_true rfl) ⟨Nat.le_of_ble_eq_true rfl, Nat.le_of_ble_eq_true rfl⟩ CR.f (c_X5_settleWinter hG hS hO hm hm4 nm1 hN hB) (fun g0 e0 => ?_)
    refine J_goto dX5_settleClause_96 ?_
    exact J_retV dX5_settleClause_214 rfl e0
  have dt_2 : ¬ k = 2 := fun z => dt (by rw [nI_toInt (by omega)]; omega)
  clear dt
  by_cases dt : (nI k).toInt = 3
  · have edt : k = 3 := (by rw [nI_toInt (by omega)] at dt; omega)
    subst edt
    have hN : ∀ i, i < 7 → h.1 89 i = nI (num i) := hL
    have hB : ∀ i, i < 7 → num i ≤ 500 := fun i hi => (hQ i hi).1
    have hm : num 0 = S.1 0 3 0 := (hQ 0 (by decide)).2.2.1 (by decide) rfl
    have hm4 := hm3 rfl
    have nm1 := nm (by decide)
    refine J_tabIn (tgt := 99) (3) dX5_settleClause_4 dt (by decide) (by decide) rfl rfl ?_
    refine J_aload_n dX5_settleClause_99 rfl ?_
    refine J_aload_n dX5_settleClause_100 rfl ?_
    refine J_getR (r := some d) dX5_settleClause_101 fX5_35 s88 (fun _ => rfl) (hS.1.2) ?_
    refine J_getR (r := some (d + 7)) dX5_settleClause_104 fX5_197 hS.1.1.s (fun _ => rfl) (hS.1.1.e10 hG) ?_
    refine J_aload_n dX5_settleClause_107 rfl ?_
    refine J_getR (r := some 89) dX5_settleClause_108 fX5_18 s88 (fun _ => rfl) (g88_11 hG) ?_
    refine J_iconstN (n := 0) dX5_settleClause_111 ?_
    refine J_ialdN dX5_settleClause_112 s89 (by decide) (by omega) ?_
    refine J_cvI ((hN _ (by omega))) ?_
    refine J_aald4N (r := some (d + 9 + 7 * (num 0))) dX5_settleClause_113 hS.1.1.s7 (by decide) (by omega) (hS.1.1.eth hG (by omega)) ?_
    refine J_cVV (ci := 5) (c := 88) (as := [pR (some (d + 9 + 7 * (num 0)))]) (st := []) dX5_settleClause_114 lX5_228 okX5_settleThing vX5_settleThing s88 (by decide) rfl rfl rfl (Nat.le_of_ble_eq_true rfl) ⟨Nat.le_of_ble_eq_true rfl, Nat.le_of_ble_eq_true rfl⟩ CR.f (c_X5_settleThing hG hS hO hm hm4 nm1 hN hB) (fun g0 e0 => ?_)
    refine J_goto dX5_settleClause_117 ?_
    exact J_retV dX5_settleClause_214 rfl e0
  have dt_3 : ¬ k = 3 := fun z => dt (by rw [nI_toInt (by omega)]; omega)
  clear dt
  by_cases dt : (nI k).toInt = 4
  · have edt : k = 4 := (by rw [nI_toInt (by omega)] at dt; omega)
    subst edt
    have hN : ∀ i, i < 7 → h.1 89 i = nI (num i) := hL
    have hB : ∀ i, i < 7 → num i ≤ 500 := fun i hi => (hQ i hi).1
    have hm : num 0 < S.1 0 3 0 := (hQ 0 (by decide)).2.2.2.1 (by decide) rfl
    have hw1 : num 1 < S.1 0 2 0 := (hQ 1 (by decide)).2.2.2.2.1 rfl rfl
    refine J_tabIn (tgt := 120) (4) dX5_settleClause_4 dt (by decide) (by decide) rfl rfl ?_
    refine J_aload_n dX5_settleClause_120 rfl ?_
    refine J_aload_n dX5_settleClause_121 rfl ?_
    refine J_getR (r := some d) dX5_settleClause_122 fX5_35 s88 (fun _ => rfl) (hS.1.2) ?_
    refine J_getR (r := some (d + 7)) dX5_settleClause_125 fX5_197 hS.1.1.s (fun _ => rfl) (hS.1.1.e10 hG) ?_
    refine J_aload_n dX5_settleClause_128 rfl ?_
    refine J_getR (r := some 89) dX5_settleClause_129 fX5_18 s88 (fun _ => rfl) (g88_11 hG) ?_
    refine J_iconstN (n := 0) dX5_settleClause_132 ?_
    refine J_ialdN dX5_settleClause_133 s89 (by decide) (by omega) ?_
    refine J_cvI ((hN _ (by omega))) ?_
    refine J_aald4N (r := some (d + 9 + 7 * (num 0))) dX5_settleClause_134 hS.1.1.s7 (by decide) (by omega) (hS.1.1.eth hG (by omega)) ?_
    refine J_aload_n dX5_settleClause_135 rfl ?_
    refine J_getR (r := some 89) dX5_settleClause_136 fX5_18 s88 (fun _ => rfl) (g88_11 hG) ?_
    refine J_iconstN (n := 1) dX5_settleClause_139 ?_
    refine J_ialdN dX5_settleClause_140 s89 (by decide) (by omega) ?_
    refine J_cvI ((hN _ (by omega))) ?_
    refine J_cVV (ci := 5) (c := 88) (as := [pR (some (d + 9 + 7 * (num 0))), pI (nI (num 1))]) (st := []) dX5_settleClause_141 lX5_232 okX5_settleWant vX5_settleWant s88 (by decide) rfl rfl rfl (Nat.le_of_ble_eq_true rfl) ⟨Nat.le_of_ble_eq_true rfl, Nat.le_of_ble_eq_true rfl⟩ CR.f (c_X5_settleWant hG hS hO hm (by omega) hN hB) (fun g0 e0 => ?_)
    refine J_goto dX5_settleClause_144 ?_
    exact J_retV dX5_settleClause_214 rfl e0
  have dt_4 : ¬ k = 4 := fun z => dt (by rw [nI_toInt (by omega)]; omega)
  clear dt
  by_cases dt : (nI k).toInt = 5
  · have edt : k = 5 := (by rw [nI_toInt (by omega)] at dt; omega)
    subst edt
    have hN : ∀ i, i < 3 → h.1 89 i = nI (num i) := hL
    have hB : ∀ i, i < 3 → num i ≤ 500 := fun i hi => (hQ i hi).1
    have hm : num 1 < S.1 0 3 0 := (hQ 1 (by decide)).2.2.2.2.2 rfl rfl
    refine J_tabIn (tgt := 147) (5) dX5_settleClause_4 dt (by decide) (by decide) rfl rfl ?_
    refine J_aload_n dX5_settleClause_147 rfl ?_
    refine J_getR (r := some d) dX5_settleClause_148 fX5_35 s88 (fun _ => rfl) (hS.1.2) ?_
    refine J_getR (r := some (d + 7)) dX5_settleClause_151 fX5_197 hS.1.1.s (fun _ => rfl) (hS.1.1.e10 hG) ?_
    refine J_aload_n dX5_settleClause_154 rfl ?_
    refine J_getR (r := some 89) dX5_settleClause_155 fX5_18 s88 (fun _ => rfl) (g88_11 hG) ?_
    refine J_iconstN (n := 1) dX5_settleClause_158 ?_
    refine J_ialdN dX5_settleClause_159 s89 (by decide) (by omega) ?_
    refine J_cvI ((hN _ (by omega))) ?_
    refine J_aald4N (r := some (d + 9 + 7 * (num 1))) dX5_settleClause_160 hS.1.1.s7 (by decide) (by omega) (hS.1.1.eth hG (by omega)) ?_
    refine J_aload_n dX5_settleClause_161 rfl ?_
    refine J_getR (r := some 89) dX5_settleClause_162 fX5_18 s88 (fun _ => rfl) (g88_11 hG) ?_
    refine J_iconstN (n := 0) dX5_settleClause_165 ?_
    refine J_ialdN dX5_settleClause_166 s89 (by decide) (by omega) ?_
    refine J_cvI ((hN _ (by omega))) ?_
    refine J_putI dX5_settleClause_167 fX5_206 (hS.1.1.th (by omega)).s rfl (vp_nar_int _) rfl (fun _ _ => rfl) ?_
    refine J_aload_n dX5_settleClause_170 rfl ?_
    refine J_getR (r := some d) dX5_settleClause_171 fX5_35 s88 (fun _ => rfl) ((xRI).trans (hS.1.2)) ?_
    refine J_getR (r := some (d + 7)) dX5_settleClause_174 fX5_197 hS.1.1.s (fun _ => rfl) ((xRI).trans (hS.1.1.e10 hG)) ?_
    refine J_aload_n dX5_settleClause_177 rfl ?_
    refine J_getR (r := some 89) dX5_settleClause_178 fX5_18 s88 (fun _ => rfl) ((xRI).trans (g88_11 hG)) ?_
    refine J_iconstN (n := 1) dX5_settleClause_181 ?_
    refine J_ialdN dX5_settleClause_182 s89 (by decide) (by omega) ?_
    refine J_cvI ((rI_c (by omega)).trans ((hN _ (by omega)))) ?_
    refine J_aald4N (r := some (d + 9 + 7 * (num 1))) dX5_settleClause_183 hS.1.1.s7 (by decide) (by omega) (hS.1.1.eth hG (by omega)) ?_
    refine J_aload_n dX5_settleClause_184 rfl ?_
    refine J_getR (r := some 89) dX5_settleClause_185 fX5_18 s88 (fun _ => rfl) ((xRI).trans (g88_11 hG)) ?_
    refine J_iconstN (n := 2) dX5_settleClause_188 ?_
    refine J_ialdN dX5_settleClause_189 s89 (by decide) (by omega) ?_
    refine J_cvI ((rI_c (by omega)).trans ((hN _ (by omega)))) ?_
    refine J_putI dX5_settleClause_190 fX5_236 (hS.1.1.th (by omega)).s rfl (vp_nar_int _) rfl (fun _ _ => rfl) ?_
    refine J_goto dX5_settleClause_193 ?_
    exact J_retV dX5_settleClause_214 rfl ⟨hS.inst hO hm (fun c k z => (rI_c (by omega)).trans ((rI_c (by omega)))) (fun k z1 z2 => (rI_k z2).trans ((rI_k z1))) ((rI_k (by decide)).trans (rI_s)) (rI_s) rfl, ((Rs.rf).tr (Rs.s (by omega) (by omega))).tr (Rs.s (by omega) (by omega))⟩
  have dt_5 : ¬ k = 5 := fun z => dt (by rw [nI_toInt (by omega)]; omega)
  clear dt
  refine J_tabOut (tgt := 196) dX5_settleClause_4 (by rw [nI_toInt (by omega)]; omega) rfl ?_
  have e6 : k = 6 := (by omega)
  subst e6
  have hN : ∀ i, i < 4 → h.1 89 i = nI (num i) := hL
  have hB : ∀ i, i < 4 → num i ≤ 500 := fun i hi => (hQ i hi).1
  have hm : num 0 = S.1 0 4 0 := (hQ 0 (by decide)).2.2.1 (by decide) rfl
  have hm4 := hm6 rfl
  have nm1 := nm (by decide)
  refine J_aload_n dX5_settleClause_196 rfl ?_
  refine J_aload_n dX5_settleClause_197 rfl ?_
  refine J_getR (r := some d) dX5_settleClause_198 fX5_35 s88 (fun _ => rfl) (hS.1.2) ?_
  refine J_getR (r := some (d + 8)) dX5_settleClause_201 fX5_239 hS.1.1.s (fun _ => rfl) (hS.1.1.e11 hG) ?_
  refine J_aload_n dX5_settleClause_204 rfl ?_
  refine J_getR (r := some 89) dX5_settleClause_205 fX5_18 s88 (fun _ => rfl) (g88_11 hG) ?_
  refine J_iconstN (n := 0) dX5_settleClause_208 ?_
  refine J_ialdN dX5_settleClause_209 s89 (by decide) (by omega) ?_
  refine J_cvI ((hN _ (by omega))) ?_
  refine J_aald5N (r := some (d + 37 + (num 0))) dX5_settleClause_210 hS.1.1.s8 (by decide) (by omega) (hS.1.1.ef hG (by omega)) ?_
  refine J_cVV (ci := 5) (c := 88) (as := [pR (some (d + 37 + (num 0)))]) (st := []) dX5_settleClause_211 lX5_242 okX5_settleFamily vX5_settleFamily s88 (by decide) rfl rfl rfl (Nat.le_of_ble_eq_true rfl) ⟨Nat.le_of_ble_eq_true rfl, Nat.le_of_ble_eq_true rfl⟩ CR.f (c_X5_settleFamily hG hS hO hm hm4 nm1 hN hB) (fun g0 e0 => ?_)
  exact J_retV dX5_settleClause_214 rfl e0
theorem c_X5_acceptName {h : PH} {T : Nat → Int32} {n s d b k c : Nat} {S : PS} {num : Nat → Nat} (hG : GR h.2.2) (hR : Rt h T n) (hT : Tk h T n s) (hs : s ≤ n) (hK : tkK T n s = 2) (hS : Rp h d T S) (hO : OkS S b) (hk : k < 7) (hc : c < 8) (h9 : h.1 88 9 = nI k) (h10 : h.1 88 10 = nI c) (hD : dueK k c = 2) (hf : nameF S k c (tkV T n s) num = 0) (hr : (k = 2 ∨ k = 3 ∨ k = 6) → cntP S.1 k < 6) : CtI mX5_acceptName h [pR (some 88)] (fun v h' => v = nI (nameI S k c (tkV T n s)) ∧ (∀ a, a ≠ 90 → a ≠ 91 → h'.1 a = h.1 a) ∧ h'.2 = h.2 ∧ Rp h' d T (nameS S k (tkV T n s)) ∧ ((k = 2 ∨ k = 3 ∨ k = 6) → NmX h' T (k * 6 + cntP S.1 k) (tkV T n s))) := by
  have hn9 := hR.2.2.2
  have hge := tkE_ge (T := T) (n := n) (s := s)
  have hle := tkE_le (T := T) hs
  have ht := hR.1
  obtain ⟨⟨-, -, w4, t4, f6, b5⟩, -, -, -, -, -, g2, g3, g4⟩ := id hO.1
  have b9 := hO.2
  have hdu := due_2 k hk c hc hD
  have hnz := nameF_z hdu.2 hf
  have hcb := cnt_b (k := k) hO
  have htl := tk_let hK
  refine Ct.of (L := [some (pR (some 88)), none]) rfl rfl (Nat.le_of_ble_eq_true rfl) rfl ?_
  refine J_aload_n dX5_acceptName_0 rfl ?_
  refine J_getI dX5_acceptName_1 fX5_42 s88 (fun _ => rfl) ?_
  refine J_cvI (h9) ?_
  refine J_iconstN (n := 4) dX5_acceptName_4 ?_
  refine J_icmp_neN dX5_acceptName_5 (by omega) (by omega) (fun c1 => ?_) (fun c1 => ?_)
  · refine J_aload_n dX5_acceptName_22 rfl ?_
    refine J_getI dX5_acceptName_23 fX5_42 s88 (fun _ => rfl) ?_
    refine J_cvI (h9) ?_
    refine J_iconstN (n := 4) dX5_acceptName_26 ?_
    refine J_icmp_eqN dX5_acceptName_27 (by omega) (by omega) (fun c2 => ?_) (fun c2 => ?_)
    · refine J_aload_n dX5_acceptName_38 rfl ?_
      refine J_iconstN (n := 3) dX5_acceptName_39 ?_
      refine J_cVI (ci := 5) (c := 88) (as := [pI (nI 3)]) (st := []) dX5_acceptName_40 lX5_194 okX5_numberNamed vX5_numberNamed s88 (by decide) rfl rfl rfl (Nat.le_of_ble_eq_true rfl) ⟨Nat.le_of_ble_eq_true rfl, Nat.le_of_ble_eq_true rfl⟩ CR.f ((show CtI mX5_numberNamed _ [pR (some 88), pI (nI 3)] (fun v h' => v = hlp (fdN (S.2.1 3) (tkV T n s) (S.1 0 3 0)) ∧ h' = _) from c_X5_numberNamed hG hR hT hs (k := 3) (by decide) hK hS hO)) (fun vq3 gq3 eq3 => ?_)
      rw [eq3.2, eq3.1]
      exact J_retI dX5_acceptName_43 rfl ⟨(by unfold nameI; rw [if_neg (by omega), if_pos (by omega)]; exact hlp_p (by first | exact hnz.2.2 (by omega) | exact hnz.2.1 (by omega) (by omega))), fun _ _ _ => rfl, rfl, by rw [nameS, if_pos (by omega)]; exact hS, fun z => absurd z (by omega)⟩
    · refine J_aload_n dX5_acceptName_30 rfl ?_
      refine J_getI dX5_acceptName_31 fX5_42 s88 (fun _ => rfl) ?_
      refine J_cvI (h9) ?_
      refine J_iconstN (n := 5) dX5_acceptName_34 ?_
      refine J_icmp_neN dX5_acceptName_35 (by omega) (by omega) (fun c4 => ?_) (fun c4 => ?_)
      · have hk3 : k = 2 ∨ k = 3 ∨ k = 6 := (by omega)
        have hr6 := hr hk3
        have hcn : cntP (nameS S k (tkV T n s)).1 k = cntP S.1 k := (by rw [nameS, if_neg (by omega)])
        have hOn : ∀ V, OkS (nameS S k V) b := fun V => (by rw [nameS, if_neg (by omega)]; exact hO)
        refine J_aload_n dX5_acceptName_44 rfl ?_
        refine J_getI dX5_acceptName_45 fX5_42 s88 (fun _ => rfl) ?_
        refine J_cvI (h9) ?_
        refine J_bipush (x := nI 6) dX5_acceptName_48 (by decide) ?_
        refine J_imulN dX5_acceptName_50 ?_
        refine J_aload_n dX5_acceptName_51 rfl ?_
        refine J_aload_n dX5_acceptName_52 rfl ?_
        refine J_getI dX5_acceptName_53 fX5_42 s88 (fun _ => rfl) ?_
        refine J_cvI (h9) ?_
        refine J_cVI (ci := 5) (c := 88) (as := [pI (nI k)]) (st := [pI (nI (k * 6))]) dX5_acceptName_56 lX5_209 okX5_toldOf vX5_toldOf s88 (by decide) rfl rfl rfl (Nat.le_of_ble_eq_true rfl) ⟨Nat.le_of_ble_eq_true rfl, Nat.le_of_ble_eq_true rfl⟩ CR.f (c_X5_toldOf hG hk hS hO) (fun vq5 gq5 eq5 => ?_)
        rw [eq5.2, eq5.1]
        refine J_iaddN dX5_acceptName_59 ?_
        refine J_istore_n (L' := [some (pR (some 88)), some (pI (nI (k * 6 + cntP S.1 k)))]) dX5_acceptName_60 (by decide) rfl ?_
        refine J_aload_n dX5_acceptName_61 rfl ?_
        refine J_getR (r := some 90) dX5_acceptName_62 fX5_22 s88 (fun _ => rfl) (g88_12 hG) ?_
        refine J_iload_n dX5_acceptName_65 rfl ?_
        refine J_aload_n dX5_acceptName_66 rfl ?_
        refine J_getI dX5_acceptName_67 fX5_52 s88 (fun _ => rfl) ?_
        refine J_cvI (hT.1) ?_
        refine J_iastN dX5_acceptName_70 s90 (by decide) (by omega) ?_
        refine J_aload_n dX5_acceptName_71 rfl ?_
        refine J_getR (r := some 91) dX5_acceptName_72 fX5_25 s88 (fun _ => rfl) ((xRI).trans (g88_13 hG)) ?_
        refine J_iload_n dX5_acceptName_75 rfl ?_
        refine J_aload_n dX5_acceptName_76 rfl ?_
        refine J_getI dX5_acceptName_77 fX5_39 s88 (fun _ => rfl) ?_
        refine J_cvI ((rI_c (by decide)).trans (hT.2.1)) ?_
        refine J_aload_n dX5_acceptName_80 rfl ?_
        refine J_getI dX5_acceptName_81 fX5_52 s88 (fun _ => rfl) ?_
        refine J_cvI ((rI_c (by decide)).trans (hT.1)) ?_
        refine J_isubN dX5_acceptName_84 (by omega) ?_
        refine J_iastN dX5_acceptName_85 s91 (by decide) (by omega) ?_
        refine J_aload_n dX5_acceptName_86 rfl ?_
        refine J_aload_n dX5_acceptName_87 rfl ?_
        refine J_getI dX5_acceptName_88 fX5_42 s88 (fun _ => rfl) ?_
        refine J_cvI ((rI_c (by decide)).trans ((rI_c (by decide)).trans (h9))) ?_
        refine J_cVI (ci := 5) (c := 88) (as := [pI (nI k)]) (st := []) dX5_acceptName_91 lX5_209 okX5_toldOf vX5_toldOf s88 (by decide) rfl rfl rfl (Nat.le_of_ble_eq_true rfl) ⟨Nat.le_of_ble_eq_true rfl, Nat.le_of_ble_eq_true rfl⟩ CR.f (c_X5_toldOf hG hk (hS.nmd (V := tkV T n s) hO hk3 (hr hk3) (fun c k z => (rI_c (by omega)).trans (rI_c (by omega))) (fun j z => (rI_c (by decide)).trans (rI_k z)) (fun j z => (rI_k z).trans (rI_c (by decide))) rfl) (hOn (tkV T n s))) (fun vq gq eq => ?_)
        rw [eq.2, show vq = nI (cntP S.1 k) from eq.1.trans (by rw [hcn])]
        exact J_retI dX5_acceptName_94 rfl ⟨by unfold nameI; rw [if_neg (by omega), if_neg (by omega)], fun a z1 z2 => (rW_c z2).trans (rW_c z1), rfl, hS.nmd hO hk3 (hr hk3) (fun c k z => (rI_c (by omega)).trans (rI_c (by omega))) (fun j z => (rI_c (by decide)).trans (rI_k z)) (fun j z => (rI_k z).trans (rI_c (by decide))) rfl, fun _ => ⟨s, tkE T n s - s, (rI_c (by decide)).trans rI_s, rI_s, by omega, (tkV_w hK).symm, htl.2.2⟩⟩
      · refine J_aload_n dX5_acceptName_38 rfl ?_
        refine J_iconstN (n := 3) dX5_acceptName_39 ?_
        refine J_cVI (ci := 5) (c := 88) (as := [pI (nI 3)]) (st := []) dX5_acceptName_40 lX5_194 okX5_numberNamed vX5_numberNamed s88 (by decide) rfl rfl rfl (Nat.le_of_ble_eq_true rfl) ⟨Nat.le_of_ble_eq_true rfl, Nat.le_of_ble_eq_true rfl⟩ CR.f ((show CtI mX5_numberNamed _ [pR (some 88), pI (nI 3)] (fun v h' => v = hlp (fdN (S.2.1 3) (tkV T n s) (S.1 0 3 0)) ∧ h' = _) from c_X5_numberNamed hG hR hT hs (k := 3) (by decide) hK hS hO)) (fun vq6 gq6 eq6 => ?_)
        rw [eq6.2, eq6.1]
        exact J_retI dX5_acceptName_43 rfl ⟨(by unfold nameI; rw [if_neg (by omega), if_pos (by omega)]; exact hlp_p (by first | exact hnz.2.2 (by omega) | exact hnz.2.1 (by omega) (by omega))), fun _ _ _ => rfl, rfl, by rw [nameS, if_pos (by omega)]; exact hS, fun z => absurd z (by omega)⟩
  · refine J_aload_n dX5_acceptName_8 rfl ?_
    refine J_getI dX5_acceptName_9 fX5_169 s88 (fun _ => rfl) ?_
    refine J_cvI (h10) ?_
    refine J_iconstN (n := 1) dX5_acceptName_12 ?_
    refine J_icmp_neN dX5_acceptName_13 (by omega) (by omega) (fun c7 => ?_) (fun c7 => ?_)
    · refine J_aload_n dX5_acceptName_22 rfl ?_
      refine J_getI dX5_acceptName_23 fX5_42 s88 (fun _ => rfl) ?_
      refine J_cvI (h9) ?_
      refine J_iconstN (n := 4) dX5_acceptName_26 ?_
      refine J_icmp_eqN dX5_acceptName_27 (by omega) (by omega) (fun c8 => ?_) (fun c8 => ?_)
      · refine J_aload_n dX5_acceptName_38 rfl ?_
        refine J_iconstN (n := 3) dX5_acceptName_39 ?_
        refine J_cVI (ci := 5) (c := 88) (as := [pI (nI 3)]) (st := []) dX5_acceptName_40 lX5_194 okX5_numberNamed vX5_numberNamed s88 (by decide) rfl rfl rfl (Nat.le_of_ble_eq_true rfl) ⟨Nat.le_of_ble_eq_true rfl, Nat.le_of_ble_eq_true rfl⟩ CR.f ((show CtI mX5_numberNamed _ [pR (some 88), pI (nI 3)] (fun v h' => v = hlp (fdN (S.2.1 3) (tkV T n s) (S.1 0 3 0)) ∧ h' = _) from c_X5_numberNamed hG hR hT hs (k := 3) (by decide) hK hS hO)) (fun vq9 gq9 eq9 => ?_)
        rw [eq9.2, eq9.1]
        exact J_retI dX5_acceptName_43 rfl ⟨(by unfold nameI; rw [if_neg (by omega), if_pos (by omega)]; exact hlp_p (by first | exact hnz.2.2 (by omega) | exact hnz.2.1 (by omega) (by omega))), fun _ _ _ => rfl, rfl, by rw [nameS, if_pos (by omega)]; exact hS, fun z => absurd z (by omega)⟩
      · refine J_aload_n dX5_acceptName_30 rfl ?_
        refine J_getI dX5_acceptName_31 fX5_42 s88 (fun _ => rfl) ?_
        refine J_cvI (h9) ?_
        refine J_iconstN (n := 5) dX5_acceptName_34 ?_
        refine J_icmp_neN dX5_acceptName_35 (by omega) (by omega) (fun c10 => ?_) (fun c10 => ?_)
        · have hk3 : k = 2 ∨ k = 3 ∨ k = 6 := (by omega)
          have hr6 := hr hk3
          have hcn : cntP (nameS S k (tkV T n s)).1 k = cntP S.1 k := (by rw [nameS, if_neg (by omega)])
          have hOn : ∀ V, OkS (nameS S k V) b := fun V => (by rw [nameS, if_neg (by omega)]; exact hO)
          refine J_aload_n dX5_acceptName_44 rfl ?_
          refine J_getI dX5_acceptName_45 fX5_42 s88 (fun _ => rfl) ?_
          refine J_cvI (h9) ?_
          refine J_bipush (x := nI 6) dX5_acceptName_48 (by decide) ?_
          refine J_imulN dX5_acceptName_50 ?_
          refine J_aload_n dX5_acceptName_51 rfl ?_
          refine J_aload_n dX5_acceptName_52 rfl ?_
          refine J_getI dX5_acceptName_53 fX5_42 s88 (fun _ => rfl) ?_
          refine J_cvI (h9) ?_
          refine J_cVI (ci := 5) (c := 88) (as := [pI (nI k)]) (st := [pI (nI (k * 6))]) dX5_acceptName_56 lX5_209 okX5_toldOf vX5_toldOf s88 (by decide) rfl rfl rfl (Nat.le_of_ble_eq_true rfl) ⟨Nat.le_of_ble_eq_true rfl, Nat.le_of_ble_eq_true rfl⟩ CR.f (c_X5_toldOf hG hk hS hO) (fun vq11 gq11 eq11 => ?_)
          rw [eq11.2, eq11.1]
          refine J_iaddN dX5_acceptName_59 ?_
          refine J_istore_n (L' := [some (pR (some 88)), some (pI (nI (k * 6 + cntP S.1 k)))]) dX5_acceptName_60 (by decide) rfl ?_
          refine J_aload_n dX5_acceptName_61 rfl ?_
          refine J_getR (r := some 90) dX5_acceptName_62 fX5_22 s88 (fun _ => rfl) (g88_12 hG) ?_
          refine J_iload_n dX5_acceptName_65 rfl ?_
          refine J_aload_n dX5_acceptName_66 rfl ?_
          refine J_getI dX5_acceptName_67 fX5_52 s88 (fun _ => rfl) ?_
          refine J_cvI (hT.1) ?_
          refine J_iastN dX5_acceptName_70 s90 (by decide) (by omega) ?_
          refine J_aload_n dX5_acceptName_71 rfl ?_
          refine J_getR (r := some 91) dX5_acceptName_72 fX5_25 s88 (fun _ => rfl) ((xRI).trans (g88_13 hG)) ?_
          refine J_iload_n dX5_acceptName_75 rfl ?_
          refine J_aload_n dX5_acceptName_76 rfl ?_
          refine J_getI dX5_acceptName_77 fX5_39 s88 (fun _ => rfl) ?_
          refine J_cvI ((rI_c (by decide)).trans (hT.2.1)) ?_
          refine J_aload_n dX5_acceptName_80 rfl ?_
          refine J_getI dX5_acceptName_81 fX5_52 s88 (fun _ => rfl) ?_
          refine J_cvI ((rI_c (by decide)).trans (hT.1)) ?_
          refine J_isubN dX5_acceptName_84 (by omega) ?_
          refine J_iastN dX5_acceptName_85 s91 (by decide) (by omega) ?_
          refine J_aload_n dX5_acceptName_86 rfl ?_
          refine J_aload_n dX5_acceptName_87 rfl ?_
          refine J_getI dX5_acceptName_88 fX5_42 s88 (fun _ => rfl) ?_
          refine J_cvI ((rI_c (by decide)).trans ((rI_c (by decide)).trans (h9))) ?_
          refine J_cVI (ci := 5) (c := 88) (as := [pI (nI k)]) (st := []) dX5_acceptName_91 lX5_209 okX5_toldOf vX5_toldOf s88 (by decide) rfl rfl rfl (Nat.le_of_ble_eq_true rfl) ⟨Nat.le_of_ble_eq_true rfl, Nat.le_of_ble_eq_true rfl⟩ CR.f (c_X5_toldOf hG hk (hS.nmd (V := tkV T n s) hO hk3 (hr hk3) (fun c k z => (rI_c (by omega)).trans (rI_c (by omega))) (fun j z => (rI_c (by decide)).trans (rI_k z)) (fun j z => (rI_k z).trans (rI_c (by decide))) rfl) (hOn (tkV T n s))) (fun vq gq eq => ?_)
          rw [eq.2, show vq = nI (cntP S.1 k) from eq.1.trans (by rw [hcn])]
          exact J_retI dX5_acceptName_94 rfl ⟨by unfold nameI; rw [if_neg (by omega), if_neg (by omega)], fun a z1 z2 => (rW_c z2).trans (rW_c z1), rfl, hS.nmd hO hk3 (hr hk3) (fun c k z => (rI_c (by omega)).trans (rI_c (by omega))) (fun j z => (rI_c (by decide)).trans (rI_k z)) (fun j z => (rI_k z).trans (rI_c (by decide))) rfl, fun _ => ⟨s, tkE T n s - s, (rI_c (by decide)).trans rI_s, rI_s, by omega, (tkV_w hK).symm, htl.2.2⟩⟩
        · refine J_aload_n dX5_acceptName_38 rfl ?_
          refine J_iconstN (n := 3) dX5_acceptName_39 ?_
          refine J_cVI (ci := 5) (c := 88) (as := [pI (nI 3)]) (st := []) dX5_acceptName_40 lX5_194 okX5_numberNamed vX5_numberNamed s88 (by decide) rfl rfl rfl (Nat.le_of_ble_eq_true rfl) ⟨Nat.le_of_ble_eq_true rfl, Nat.le_of_ble_eq_true rfl⟩ CR.f ((show CtI mX5_numberNamed _ [pR (some 88), pI (nI 3)] (fun v h' => v = hlp (fdN (S.2.1 3) (tkV T n s) (S.1 0 3 0)) ∧ h' = _) from c_X5_numberNamed hG hR hT hs (k := 3) (by decide) hK hS hO)) (fun vq12 gq12 eq12 => ?_)
          rw [eq12.2, eq12.1]
          exact J_retI dX5_acceptName_43 rfl ⟨(by unfold nameI; rw [if_neg (by omega), if_pos (by omega)]; exact hlp_p (by first | exact hnz.2.2 (by omega) | exact hnz.2.1 (by omega) (by omega))), fun _ _ _ => rfl, rfl, by rw [nameS, if_pos (by omega)]; exact hS, fun z => absurd z (by omega)⟩
    · refine J_aload_n dX5_acceptName_16 rfl ?_
      refine J_iconstN (n := 2) dX5_acceptName_17 ?_
      refine J_cVI (ci := 5) (c := 88) (as := [pI (nI 2)]) (st := []) dX5_acceptName_18 lX5_194 okX5_numberNamed vX5_numberNamed s88 (by decide) rfl rfl rfl (Nat.le_of_ble_eq_true rfl) ⟨Nat.le_of_ble_eq_true rfl, Nat.le_of_ble_eq_true rfl⟩ CR.f ((show CtI mX5_numberNamed _ [pR (some 88), pI (nI 2)] (fun v h' => v = hlp (fdN (S.2.1 2) (tkV T n s) (S.1 0 2 0)) ∧ h' = _) from c_X5_numberNamed hG hR hT hs (k := 2) (by decide) hK hS hO)) (fun vq13 gq13 eq13 => ?_)
      rw [eq13.2, eq13.1]
      exact J_retI dX5_acceptName_21 rfl ⟨(by unfold nameI; rw [if_pos (by omega)]; exact hlp_p (hnz.1 (by omega) (by omega))), fun _ _ _ => rfl, rfl, by rw [nameS, if_pos (by omega)]; exact hS, fun z => absurd z (by omega)⟩
