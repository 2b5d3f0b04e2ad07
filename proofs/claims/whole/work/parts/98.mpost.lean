/-! ===== post: the model ===== -/
theorem Mf_b {h g : PH} (b : Bq 16 h g) : Mf h (sI (sI (sI (sI (sI g 168 (4 + 0) (-1)) 168 (4 + 1) (-1)) 168 (4 + 2) (-1)) 168 (4 + 3) (-1)) 158 24 (nI 0)) := by
  obtain ⟨b1, b2, b3, -, b5, -, -⟩ := b
  have f : Mf h g := ⟨fun c k z => by
    by_cases q0 : c = 160
    · subst q0
      exact b3 k (by unfold inD at z; omega)
    · by_cases q1 : c = 166
      · subst q1
        exact b5 k (by unfold inD at z; omega)
      · exact congrFun (b1 c q0 q1 (by unfold inD at z; omega)) k, fun c k _ _ _ _ => by rw [b2], by rw [b2]⟩
  exact ((((f.s (inD_168 (by omega))).s (inD_168 (by omega))).s (inD_168 (by omega))).s (inD_168 (by omega))).s (by unfold inD; omega)
theorem Mk.b {h g : PH} {T : Nat → Int32} {n s : Nat} {x y : Int32} (a : Mk h T n s) (b : Bq 16 (sI (sI h 158 8 x) 158 9 y) g) : Mk (sI (sI (sI (sI (sI g 168 (4 + 0) (-1)) 168 (4 + 1) (-1)) 168 (4 + 2) (-1)) 168 (4 + 3) (-1)) 158 24 (nI 0)) T n s := by
  have F : ∀ k, k ≠ 24 → k ≠ 8 → k ≠ 9 → (sI (sI (sI (sI (sI g 168 (4 + 0) (-1)) 168 (4 + 1) (-1)) 168 (4 + 2) (-1)) 168 (4 + 3) (-1)) 158 24 (nI 0)).1 158 k = h.1 158 k := fun k z1 z2 z3 => (rI_k z1).trans ((rI_c (by decide)).trans ((rI_c (by decide)).trans ((rI_c (by decide)).trans ((rI_c (by decide)).trans ((congrFun (b.1 158 (by decide) (by decide) (by decide)) k).trans ((rI_k z3).trans (rI_k z2)))))))
  have L : (sI (sI (sI (sI (sI g 168 (4 + 0) (-1)) 168 (4 + 1) (-1)) 168 (4 + 2) (-1)) 168 (4 + 3) (-1)) 158 24 (nI 0)).2.1 158 10 = h.2.1 158 10 := congrArg (fun (y : (Nat → Nat → Int64) × (Nat → Nat → Option Nat)) => y.1 158 10) b.2.1
  obtain ⟨k1, k2, k3, k4, k5, k6⟩ := a
  exact ⟨(F 3 (by decide) (by decide) (by decide)).trans k1, (F 4 (by decide) (by decide) (by decide)).trans k2, (F 5 (by decide) (by decide) (by decide)).trans k3, (F 6 (by decide) (by decide) (by decide)).trans k4, fun z => L.trans (k5 z), fun z => (F 7 (by decide) (by decide) (by decide)).trans (k6 z)⟩
theorem Mt.f8 {h : PH} {T : Nat → Int32} {n : Nat} {x y : Int32} (a : Mt h T n) : Mt (sI (sI h 158 8 x) 158 9 y) T n := ⟨fun i hi => (rI_c (by decide)).trans ((rI_c (by decide)).trans (a.1 i hi)), (rI_k (by decide)).trans ((rI_k (by decide)).trans a.2.1), a.2.2⟩
theorem post_bad {A : AS} {h h2 h' : PH} (hM : MI h2 (wF (eA A) (nI 0, -1))) (hW : WF A) (hb : Bad (postR A) h2 h') (fr : Fr 158 186 h h2) : (-1 : Int32) = postA A ∧ MP h h' (postS A) := by
  obtain ⟨hz, g, f, rfl⟩ := hb
  have hW' : WF (wF (eA A) (nI 0, -1)) := hW.emp
  refine ⟨(if_neg hz).symm, ?_, (fr.tr f.fr).tr ((Fr.sI (by decide) (by decide)).tr (Fr.sI (by decide) (by decide)))⟩
  unfold postS
  rw [if_neg hz]
  exact (hM.mf hW' f).flt
theorem post_good {A : AS} {h h2 h3 g z : PH} {S : PS} {c p : Nat} {num : Nat → Nat} (hM : MI h2 (wF (eA A) (nI 0, -1))) (hW : WF A) (hA : At (postR A) h2 h3 (aT A) (aN A) (S, 0, c, num) p) (hD : Md h3 S) (hK : tkK (aT A) (aN A) (rn cBl (aT A) (aN A) p) = 0) (hw : wOk S.1) (hs : Sg h3 g) (hz : Zr 32 (sI (sI (sI (sI (sI (sI (sI (sI g 171 0 (nI 0)) 172 0 (nI 0)) 171 1 (nI 0)) 172 1 (nI 0)) 171 2 (nI 0)) 172 2 (nI 0)) 171 3 (nI 0)) 172 3 (nI 0)) z) (fr : Fr 158 186 h h2) : nI (S.1 0 5 0) = postA A ∧ MP h (sI (sI (sI (sI (sI z 186 0 (vp_nar .boolean (nI 0))) 186 1 (vp_nar .boolean (nI 0))) 186 2 (vp_nar .boolean (nI 0))) 158 42 (nI 0)) 158 23 (nI (S.1 0 5 0))) (postS A) := by
  have e := hA.e0 hK hw
  have hW' : WF (wF (eA A) (nI 0, -1)) := hW.emp
  have y := MI.good (hM.mf hW' hA.2.2.2.2) hD hA.2.2.1.1 hs hz
  unfold postA postS
  rw [e, if_pos rfl, if_pos rfl]
  exact ⟨rfl, y.1, (fr.tr hA.2.2.2.2.fr).tr y.2⟩
theorem c_X10_post {h : PH} {A : AS} (hG : GR h.2.2) (hM : MI h A) (hW : WF A) : CtI mX10_post h [pR (some 158)] (fun v h' => v = postA A ∧ MP h h' (postS A)) := by
  have bN := hW.1
  refine Ct.of (L := [some (pR (some 158)), none]) rfl rfl (Nat.le_of_ble_eq_true rfl) rfl ?_
  refine J_aload_n dX10_post_0 rfl ?_
  refine J_aload_n dX10_post_1 rfl ?_
  refine J_getI dX10_post_2 fX10_110 s158 (fun _ => rfl) ?_
  refine J_cvI (hM.1.2) ?_
  refine J_putI dX10_post_5 fX10_113 s158 rfl (vp_nar_int _) rfl (fun _ _ => rfl) ?_
  refine J_aload_n dX10_post_8 rfl ?_
  refine J_iconstN (n := 0) dX10_post_9 ?_
  refine J_putI dX10_post_10 fX10_110 s158 rfl (vp_nar_int _) rfl (fun _ _ => rfl) ?_
  refine J_aload_n dX10_post_13 rfl ?_
  refine J_iconstN (n := 0) dX10_post_14 ?_
  refine J_putI dX10_post_15 fX10_132 s158 rfl (vp_nar_int _) rfl (fun _ _ => rfl) ?_
  refine J_aload_n dX10_post_18 rfl ?_
  have hB0 : Mt (sI (sI (sI (h) 158 2 (nI (aN A))) 158 1 (nI 0)) 158 6 (nI 0)) (aT A) (aN A) := ⟨fun i hi => (rI_c (by decide)).trans ((rI_c (by decide)).trans ((rI_c (by decide)).trans (hM.1.1 i hi))), (rI_k (by decide)).trans ((rI_k (by decide)).trans rI_s), hW.1, hW.2.1⟩
  have hM0 : MI (sI (sI (sI (h) 158 2 (nI (aN A))) 158 1 (nI 0)) 158 6 (nI 0)) (eA A) := ((hM.mq (MFr.f (k := 2) (by decide))).emp).mq (MFr.f (k := 6) (by decide))
  have fr0 : Fr 158 186 h (sI (sI (sI (h) 158 2 (nI (aN A))) 158 1 (nI 0)) 158 6 (nI 0)) := ((Fr.sI (by decide) (by decide)).tr (Fr.sI (by decide) (by decide))).tr (Fr.sI (by decide) (by decide))
  refine J_cVV (ci := 10) (c := 158) (as := []) (st := []) dX10_post_19 lX10_179 okX10_scan vX10_scan s158 (by decide) rfl rfl rfl (Nat.le_of_ble_eq_true rfl) ⟨Nat.le_of_ble_eq_true rfl, Nat.le_of_ble_eq_true rfl⟩ CR.f (c_X10_scan (h := sI (sI (sI (h) 158 2 (nI (aN A))) 158 1 (nI 0)) 158 6 (nI 0)) (T := aT A) (n := aN A) (p := 0) hG hB0 rI_s (Nat.zero_le _)) (fun g1 e1 => ?_)
  have hG := e1.1.g hG
  have hM1 := hM0.mf hW.emp (Mf.rf.ms e1.1)
  have fr1 := fr0.tr (Mf.rf.ms e1.1).fr
  refine J_aload_n dX10_post_22 rfl ?_
  refine J_iconstN (n := 0) dX10_post_23 ?_
  refine J_putI dX10_post_24 fX10_166 s158 rfl (vp_nar_int _) rfl (fun _ _ => rfl) ?_
  refine J_aload_n dX10_post_27 rfl ?_
  refine J_iconst (x := -1) dX10_post_28 (by decide) ?_
  refine J_putI dX10_post_29 fX10_13 s158 rfl (vp_nar_int _) rfl (fun _ _ => rfl) ?_
  refine J_aload_n dX10_post_32 rfl ?_
  refine J_cVV (ci := 10) (c := 158) (as := []) (st := []) dX10_post_33 lX10_104 okX10_begin vX10_begin s158 (by decide) rfl rfl rfl (Nat.le_of_ble_eq_true rfl) ⟨Nat.le_of_ble_eq_true rfl, Nat.le_of_ble_eq_true rfl⟩ CR.f (c_X10_begin hG) (fun g2 e2 => ?_)
  obtain ⟨g, hb, rfl⟩ := e2
  have hG := (Mf_b hb).g hG
  have hW1 : WF (wF (eA A) (nI 0, -1)) := hW.emp
  have hM2 := (hM1.flt (x := nI 0) (y := -1)).mf hW1 (Mf_b hb)
  have fr2 := (fr1.tr ((Fr.sI (k := 8) (x := nI 0) (by decide) (by decide)).tr (Fr.sI (k := 9) (x := -1) (by decide) (by decide)))).tr (Mf_b hb).fr
  have hA0 : At (postR A) (sI (sI (sI (sI (sI g 168 (4 + 0) (-1)) 168 (4 + 1) (-1)) 168 (4 + 2) (-1)) 168 (4 + 3) (-1)) 158 24 (nI 0)) (sI (sI (sI (sI (sI g 168 (4 + 0) (-1)) 168 (4 + 1) (-1)) 168 (4 + 2) (-1)) 168 (4 + 3) (-1)) 158 24 (nI 0)) (aT A) (aN A) (S00, 0, 0, fun _ => 0) 0 := ⟨e1.2.b hb, ⟨((hB0.ms e1.1).f8).mf (Mf_b hb), Nat.zero_le _⟩, OkG_0, rfl, Mf.rf⟩
  have hD0 := Md_0 hb
  generalize (sI (sI (sI (sI (sI g 168 (4 + 0) (-1)) 168 (4 + 1) (-1)) 168 (4 + 2) (-1)) 168 (4 + 3) (-1)) 158 24 (nI 0)) = g2 at *
  refine J_iconstN (n := 0) dX10_post_36 ?_
  refine J_istore_n (L' := [some (pR (some 158)), some (pI (nI 0))]) dX10_post_37 (by decide) rfl ?_
  have hG0 := hG
  refine J_forI (α := Unit) (L := fun i1 aa1 => [some (pR (some 158)), some (pI (nI i1))]) (fun i1 aa1 h1 => ∃ S c num p, At (postR A) g2 h1 (aT A) (aN A) (S, 0, c, num) p ∧ Md h1 S ∧ S.1 0 5 0 = i1) (e := 901) (fun aa1 h1 hI1 => (by obtain ⟨S, c, num, p, hA, -, hi⟩ := hI1; have b1 : S.1 0 5 0 ≤ p := hA.2.2.1.1.1.1.2.2.2.2.2; have b2 := hA.2.1.2; exact absurd hi (by omega))) (fun i1 aa1 h1 hi1 hI1 ih1 => ?_) 0 () _ (by omega) (⟨S00, 0, fun _ => 0, 0, hA0, hD0, rfl⟩)
  show J _ _ _ _ _ [some (pR (some 158)), some (pI (nI i1))] _ _ h1
  obtain ⟨S, c, num, p, hA, hD, hi5⟩ := hI1
  have hG := hA.2.2.2.2.g hG0
  have w4 : S.1 0 2 0 ≤ 4 := hA.2.2.1.1.1.1.2.2.1
  have hst := stM_b (K := tkK (aT A) (aN A) (rn cBl (aT A) (aN A) p))
  refine J_aload_n dX10_post_38 rfl ?_
  refine J_getI dX10_post_39 fX10_141 s158 (fun _ => rfl) ?_
  refine J_cvI (hA.1.1) ?_
  refine J_iconstN (n := 4) dX10_post_42 ?_
  refine J_icmp_eqN dX10_post_43 (by omega) (by omega) (fun d4 => ?_) (fun d4 => ?_)
  · have q0 := (st_4 tkK_b).mp d4
    refine J_aload_n dX10_post_82 rfl ?_
    refine J_cVI (ci := 10) (c := 158) (as := []) (st := []) dX10_post_83 lX10_228 okX10_isWeighed vX10_isWeighed s158 (by decide) rfl rfl rfl (Nat.le_of_ble_eq_true rfl) ⟨Nat.le_of_ble_eq_true rfl, Nat.le_of_ble_eq_true rfl⟩ CR.f (c_X10_isWeighed (W := S.1 0 2 0) (x := fun w => S.1 1 w 0) hG (hD.1 2 (by decide)) w4 (fun w hw => hD.2.1 w hw 0 (by decide)) (fun w hw => (hA.2.2.1.1.1.2.1 w hw).1)) (fun vq2 gq2 eq2 => ?_)
    rw [eq2.2, eq2.1]
    refine J_if_neB dX10_post_86 (fun d7 => ?_) (fun d7 => ?_)
    · refine J_aload_n dX10_post_98 rfl ?_
      refine J_cVV (ci := 10) (c := 158) (as := []) (st := []) dX10_post_99 lX10_107 okX10_settle vX10_settle s158 (by decide) rfl rfl rfl (Nat.le_of_ble_eq_true rfl) ⟨Nat.le_of_ble_eq_true rfl, Nat.le_of_ble_eq_true rfl⟩ CR.f (c_X10_settle hG) (fun g5 e5 => ?_)
      obtain ⟨gg, zz, sg, sz, rfl⟩ := e5
      rw [← hi5]
      refine J_aload_n dX10_post_102 rfl ?_
      refine J_iload_n dX10_post_103 rfl ?_
      refine J_putI dX10_post_104 fX10_231 s158 rfl (vp_nar_int _) rfl (fun _ _ => rfl) ?_
      refine J_iload_n dX10_post_107 rfl ?_
      exact J_retI dX10_post_108 rfl (by rw [hi5]; rw [← hi5]; exact post_good hM2 hW hA hD q0 d7 sg sz fr2)
    · refine J_aload_n dX10_post_89 rfl ?_
      refine J_bipush (x := nI 7) dX10_post_90 (by decide) ?_
      refine J_cVI (ci := 10) (c := 158) (as := [pI (nI 7)]) (st := []) dX10_post_92 lX10_169 okX10_fails vX10_fails s158 (by decide) rfl rfl rfl (Nat.le_of_ble_eq_true rfl) ⟨Nat.le_of_ble_eq_true rfl, Nat.le_of_ble_eq_true rfl⟩ CR.f (c_X10_fails (k := 7) hA.1.2.2.1) (fun vf4 gf4 ef4 => ?_)
      rw [ef4.1, ef4.2]
      refine J_pop dX10_post_95 rfl ?_
      refine J_iconst (x := -1) dX10_post_96 (by decide) ?_
      exact J_retI dX10_post_97 rfl (post_bad hM2 hW (hA.e7 q0 d7) fr2)
  · refine J_aload_n dX10_post_46 rfl ?_
    refine J_iload_n dX10_post_47 rfl ?_
    refine J_cVI (ci := 10) (c := 158) (as := [pI (nI i1)]) (st := []) dX10_post_48 lX10_225 okX10_readClause vX10_readClause s158 (by decide) rfl rfl rfl (Nat.le_of_ble_eq_true rfl) ⟨Nat.le_of_ble_eq_true rfl, Nat.le_of_ble_eq_true rfl⟩ CR.f (c_X10_readClause hG hA hD hi5 (fun y => d4 ((st_4 tkK_b).mpr y))) (fun v3 g3 e3 => ?_)
    rcases e3 with ⟨rfl, e3⟩ | ⟨rfl, k, S', c', num', p', hA, hd4, hD, hi6⟩
    · refine J_if_ne dX10_post_51 (fun c0 => absurd c0 (by decide)) (fun c0 => ?_)
      refine J_iconst (x := -1) dX10_post_54 (by decide) ?_
      exact J_retI dX10_post_55 rfl (post_bad hM2 hW e3 fr2)
    · have hG := hA.2.2.2.2.g hG0
      have hst := stM_b (K := tkK (aT A) (aN A) (rn cBl (aT A) (aN A) p'))
      refine J_if_ne dX10_post_51 (fun c0 => ?_) (fun c0 => absurd c0 (by decide))
      refine J_aload_n dX10_post_56 rfl ?_
      refine J_getI dX10_post_57 fX10_141 s158 (fun _ => rfl) ?_
      refine J_cvI (hA.1.1) ?_
      refine J_iconstN (n := 3) dX10_post_60 ?_
      refine J_icmp_eqN dX10_post_61 (by omega) (by omega) (fun d3 => ?_) (fun d3 => ?_)
      · have qs := (st_3 tkK_b).mp d3
        refine J_aload_n dX10_post_72 rfl ?_
        refine J_cVV (ci := 10) (c := 158) (as := []) (st := []) dX10_post_73 lX10_179 okX10_scan vX10_scan s158 (by decide) rfl rfl rfl (Nat.le_of_ble_eq_true rfl) ⟨Nat.le_of_ble_eq_true rfl, Nat.le_of_ble_eq_true rfl⟩ CR.f (c_X10_scan hG hA.2.1.1 hA.1.2.2.2.1 (tkE_le (rn_le hA.2.1.2))) (fun gs6 es6 => ?_)
        have hD := hD.sh (Sh.rf.ms es6.1)
        have hA := hA.sc hd4 qs es6.2 es6.1
        refine J_iincN (n := 1) (L' := [some (pR (some 158)), some (pI (nI (i1 + 1)))]) dX10_post_76 rfl (by decide) rfl ?_
        refine J_goto dX10_post_79 ?_
        exact ih1 () _ ⟨_, _, _, _, hA, hD, hi6⟩
      · refine J_aload_n dX10_post_64 rfl ?_
        refine J_iconstN (n := 1) dX10_post_65 ?_
        refine J_cVI (ci := 10) (c := 158) (as := [pI (nI 1)]) (st := []) dX10_post_66 lX10_169 okX10_fails vX10_fails s158 (by decide) rfl rfl rfl (Nat.le_of_ble_eq_true rfl) ⟨Nat.le_of_ble_eq_true rfl, Nat.le_of_ble_eq_true rfl⟩ CR.f (c_X10_fails (k := 1) hA.1.2.2.1) (fun vf7 gf7 ef7 => ?_)
        rw [ef7.1, ef7.2]
        refine J_pop dX10_post_69 rfl ?_
        refine J_iconst (x := -1) dX10_post_70 (by decide) ?_
        exact J_retI dX10_post_71 rfl (post_bad hM2 hW (hA.s1 hd4 (fun y => d3 ((st_3 tkK_b).mpr y))) fr2)
