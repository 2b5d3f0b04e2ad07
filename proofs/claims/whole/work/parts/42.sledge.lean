/-! ===== sledge, when ===== -/
abbrev okH (q s m c : Int32) : Prop := inR q 41 ∧ inR s 41 ∧ (1 ≤ m.toInt ∧ m.toInt ≤ 20) ∧ inR c 100
theorem setSl {h h' : PH} {a b c d : Int32} (e : h' = sI (sI (sI (sI h 92 12 a) 92 13 b) 92 14 c) 92 15 d) : (h'.1 92 12 = a ∧ h'.1 92 13 = b ∧ h'.1 92 14 = c ∧ h'.1 92 15 = d) ∧ Fr 92 92 h h' := by
  subst e
  exact ⟨⟨(rI_k (by decide)).trans ((rI_k (by decide)).trans ((rI_k (by decide)).trans rI_s)), (rI_k (by decide)).trans ((rI_k (by decide)).trans rI_s), (rI_k (by decide)).trans rI_s, rI_s⟩, Fr.tr (Fr.tr (Fr.tr (Fr.sI (Nat.le_refl _) (Nat.le_refl _)) (Fr.sI (Nat.le_refl _) (Nat.le_refl _))) (Fr.sI (Nat.le_refl _) (Nat.le_refl _))) (Fr.sI (Nat.le_refl _) (Nat.le_refl _))⟩
theorem TMA.o {h h' : PH} {t rk rl : Nat} {a : Nat → Nat} (q : TMA h t a rk rl) (e : ∀ c, c ≠ 158 → h'.1 c = h.1 c) : TMA h' t a rk rl := ⟨fun i hi => ⟨(congrFun (e 165 (by decide)) _).trans (q.1 i hi).1, (q.1 i hi).2⟩, (congrFun (e 171 (by decide)) _).trans q.2.1, (congrFun (e 172 (by decide)) _).trans q.2.2.1, q.2.2.2⟩
theorem WM.o {h h' : PH} {t w : Nat} {u : Nat → Nat} (a : WM h t w u) (e : ∀ c, c ≠ 158 → h'.1 c = h.1 c) : WM h' t w u := fun n hn => ⟨(congrFun (e 166 (by decide)) _).trans (a n hn).1, (a n hn).2⟩
theorem sg3 {h : PH} {a b c : Int32} : (∀ k, k ≠ 158 → (sI (sI (sI h 158 35 a) 158 36 b) 158 37 c).1 k = h.1 k) ∧ (sI (sI (sI h 158 35 a) 158 36 b) 158 37 c).1 158 35 = a ∧ (sI (sI (sI h 158 35 a) 158 36 b) 158 37 c).1 158 36 = b ∧ (sI (sI (sI h 158 35 a) 158 36 b) 158 37 c).1 158 37 = c := ⟨fun k hk => (rW_c hk).trans ((rW_c hk).trans (rW_c hk)), (rI_k (by decide)).trans ((rI_k (by decide)).trans rI_s), (rI_k (by decide)).trans rI_s, rI_s⟩
theorem MFr.sg {h hh : PH} {a b c : Int32} (k35 : h.1 158 35 = hlp 0) (f : FG (sI (sI (sI h 158 35 a) 158 36 b) 158 37 c) hh) : MFr h (sI hh 158 35 (-1)) := by
  have m : MFr (sI (sI (sI h 158 35 a) 158 36 b) 158 37 c) hh := .of f
  refine ⟨fun k x1 x2 => ⟨(rW_c x1).trans ((m.1 k x1 x2).1.trans (sg3.1 k x1)), (m.1 k x1 x2).2⟩, fun k hk => ?_, m.2.2.1, fun k x => ⟨(rW_c (by omega)).trans ((m.2.2.2 k x).1.trans (sg3.1 k (by omega))), (m.2.2.2 k x).2⟩⟩
  by_cases q : k = 35
  · subst q
    exact rI_s.trans k35.symm
  · exact (rI_k q).trans ((m.2.1 k hk).trans ((rI_k (by omega)).trans ((rI_k (by omega)).trans (rI_k q))))
def sgM (A : AS) (t q S M c f w : Nat) : Int64 := vF (aP A 2 t) (aU A t 0) (aU A t 1) (aV A t w) (f + 1) S M 0 q (aP A 0 0 0) - lN (aP A 2 t 1 * q) * tenL (aP A 0 0 0) - lN c * CW (aU A t 0) (aU A t 1) (aP A 2 t 5) (aV A t w) (f + 1) S M 0 q (aP A 0 0 0) (aP A 0 0 0)
theorem sgM_eq {A : AS} {t q S M c f : Nat} (hW : WF A) (hn : 0 < aP A 0 2 0) (hf : f < aP A 0 0 0) (hM : M ≤ 20) (hq : q ≤ 40) : sL64 (fun w => lN (aP A 1 w 0) * sgM A t q S M c f w) (aP A 0 2 0) = sgF A t q S M c f := sgR_eq (x := aX A) (u := aV A t) hf hM hq (hW.xL hn)
theorem c_X9_isSledge {h : PH} {p : Nat} {A : AS} {t q s m c : Int32} (hG : GR h.2.2) (hX : XI h p A) (hW : WF A) : CtI mX9_isSledge h [pR (some 0), pI t, pI q, pI s, pI m, pI c] (fun v h' => v = bI (okG (aP A) t q s m c) ∧ h' = h) := by
  have bN := hW.1
  have bk := hW.wk
  have bc := hW.cs
  have bw := hW.wn
  have bt := hW.tn
  have bf := hW.fn
  refine Ct.of (L := [some (pR (some 0)), some (pI t), some (pI q), some (pI s), some (pI m), some (pI c)]) rfl rfl (Nat.le_of_ble_eq_true rfl) rfl ?_
  refine J_aload_n dX9_isSledge_0 rfl ?_
  refine J_iload_n dX9_isSledge_1 rfl ?_
  refine J_cVI (ci := 9) (c := 0) (as := [pI t]) (st := []) dX9_isSledge_2 lX9_130 okX9_hasThing vX9_hasThing s0 (by decide) rfl rfl rfl (Nat.le_of_ble_eq_true rfl) ⟨Nat.le_of_ble_eq_true rfl, Nat.le_of_ble_eq_true rfl⟩ CR.f (c_X9_hasThing hG hX.po hX.cu hX.tn (by omega)) (fun vq1 gq1 eq1 => ?_)
  obtain ⟨rfl, fq1⟩ := eq1
  rw [fq1]
  refine J_if_eqB dX9_isSledge_5 (fun d1 => ?_) (fun d1 => ?_)
  · refine J_iconstN (n := 0) dX9_isSledge_51 ?_
    exact J_retZ dX9_isSledge_52 rfl rfl ⟨bI_f (fun q => by simp only [okG, okH, okGf, inR, Int32.lt_iff_toInt_lt, Int32.le_iff_toInt_le, tn0, tn1, tn2, tn3, tn4, tn5, tn6, tn10, tn19, tn20, tn40, tn48, tn80, tn89, tn90, tn99, tn999, tn9999, zT] at q d1 <;> omega), rfl⟩
  · refine J_iload_n dX9_isSledge_8 rfl ?_
    refine J_cSI (as := [pI q]) (st := []) dX9_isSledge_9 lX9_171 okX9_isOrder sX9_isOrder rfl rfl (Nat.le_of_ble_eq_true rfl) ⟨Nat.le_of_ble_eq_true rfl, Nat.le_of_ble_eq_true rfl⟩ CR.f (c_X9_isOrder) (fun vq3 gq3 eq3 => ?_)
    obtain ⟨rfl, fq3⟩ := eq3
    rw [fq3]
    refine J_if_eqB dX9_isSledge_12 (fun d2 => ?_) (fun d2 => ?_)
    · refine J_iconstN (n := 0) dX9_isSledge_51 ?_
      exact J_retZ dX9_isSledge_52 rfl rfl ⟨bI_f (fun q => by simp only [okG, okH, okGf, inR, Int32.lt_iff_toInt_lt, Int32.le_iff_toInt_le, tn0, tn1, tn2, tn3, tn4, tn5, tn6, tn10, tn19, tn20, tn40, tn48, tn80, tn89, tn90, tn99, tn999, tn9999, zT] at q d1 d2 <;> omega), rfl⟩
    · refine J_iload_n dX9_isSledge_15 rfl ?_
      refine J_cSI (as := [pI s]) (st := []) dX9_isSledge_16 lX9_171 okX9_isOrder sX9_isOrder rfl rfl (Nat.le_of_ble_eq_true rfl) ⟨Nat.le_of_ble_eq_true rfl, Nat.le_of_ble_eq_true rfl⟩ CR.f (c_X9_isOrder) (fun vq5 gq5 eq5 => ?_)
      obtain ⟨rfl, fq5⟩ := eq5
      rw [fq5]
      refine J_if_eqB dX9_isSledge_19 (fun d3 => ?_) (fun d3 => ?_)
      · refine J_iconstN (n := 0) dX9_isSledge_51 ?_
        exact J_retZ dX9_isSledge_52 rfl rfl ⟨bI_f (fun q => by simp only [okG, okH, okGf, inR, Int32.lt_iff_toInt_lt, Int32.le_iff_toInt_le, tn0, tn1, tn2, tn3, tn4, tn5, tn6, tn10, tn19, tn20, tn40, tn48, tn80, tn89, tn90, tn99, tn999, tn9999, zT] at q d1 d2 d3 <;> omega), rfl⟩
      · refine J_iload dX9_isSledge_22 rfl ?_
        refine J_iconstN (n := 1) dX9_isSledge_24 ?_
        refine J_icmp_lt dX9_isSledge_25 (fun d4 => ?_) (fun d4 => ?_)
        · refine J_iconstN (n := 0) dX9_isSledge_51 ?_
          exact J_retZ dX9_isSledge_52 rfl rfl ⟨bI_f (fun q => by simp only [okG, okH, okGf, inR, Int32.lt_iff_toInt_lt, Int32.le_iff_toInt_le, tn0, tn1, tn2, tn3, tn4, tn5, tn6, tn10, tn19, tn20, tn40, tn48, tn80, tn89, tn90, tn99, tn999, tn9999, zT] at q d1 d2 d3 d4 <;> omega), rfl⟩
        · refine J_iload dX9_isSledge_28 rfl ?_
          refine J_bipush (x := nI 20) dX9_isSledge_30 (by decide) ?_
          refine J_icmp_gt dX9_isSledge_32 (fun d5 => ?_) (fun d5 => ?_)
          · refine J_iconstN (n := 0) dX9_isSledge_51 ?_
            exact J_retZ dX9_isSledge_52 rfl rfl ⟨bI_f (fun q => by simp only [okG, okH, okGf, inR, Int32.lt_iff_toInt_lt, Int32.le_iff_toInt_le, tn0, tn1, tn2, tn3, tn4, tn5, tn6, tn10, tn19, tn20, tn40, tn48, tn80, tn89, tn90, tn99, tn999, tn9999, zT] at q d1 d2 d3 d4 d5 <;> omega), rfl⟩
          · refine J_iload dX9_isSledge_35 rfl ?_
            refine J_if_lt dX9_isSledge_37 (fun d6 => ?_) (fun d6 => ?_)
            · refine J_iconstN (n := 0) dX9_isSledge_51 ?_
              exact J_retZ dX9_isSledge_52 rfl rfl ⟨bI_f (fun q => by simp only [okG, okH, okGf, inR, Int32.lt_iff_toInt_lt, Int32.le_iff_toInt_le, tn0, tn1, tn2, tn3, tn4, tn5, tn6, tn10, tn19, tn20, tn40, tn48, tn80, tn89, tn90, tn99, tn999, tn9999, zT] at q d1 d2 d3 d4 d5 d6 <;> omega), rfl⟩
            · refine J_iload dX9_isSledge_40 rfl ?_
              refine J_bipush (x := nI 99) dX9_isSledge_42 (by decide) ?_
              refine J_icmp_gt dX9_isSledge_44 (fun d7 => ?_) (fun d7 => ?_)
              · refine J_iconstN (n := 0) dX9_isSledge_51 ?_
                exact J_retZ dX9_isSledge_52 rfl rfl ⟨bI_f (fun q => by simp only [okG, okH, okGf, inR, Int32.lt_iff_toInt_lt, Int32.le_iff_toInt_le, tn0, tn1, tn2, tn3, tn4, tn5, tn6, tn10, tn19, tn20, tn40, tn48, tn80, tn89, tn90, tn99, tn999, tn9999, zT] at q d1 d2 d3 d4 d5 d6 d7 <;> omega), rfl⟩
              · refine J_iconstN (n := 1) dX9_isSledge_47 ?_
                refine J_goto dX9_isSledge_48 ?_
                exact J_retZ dX9_isSledge_52 rfl rfl ⟨bI_t ⟨d1, d2, d3, by simp only [Int32.lt_iff_toInt_lt, tn1, tn20] at d4 d5; omega, inR_d (n := 99) (by decide) d6 d7⟩, rfl⟩
theorem c_X10_isSledge {h : PH} {q s m c : Int32} : CtI mX10_isSledge h [pI q, pI s, pI m, pI c] (fun v h' => v = bI (okH q s m c) ∧ h' = h) := by
  refine Ct.of (L := [some (pI q), some (pI s), some (pI m), some (pI c)]) rfl rfl (Nat.le_of_ble_eq_true rfl) rfl ?_
  refine J_iload_n dX10_isSledge_0 rfl ?_
  refine J_cSI (as := [pI q]) (st := []) dX10_isSledge_1 lX10_303 okX10_isOrder sX10_isOrder rfl rfl (Nat.le_of_ble_eq_true rfl) ⟨Nat.le_of_ble_eq_true rfl, Nat.le_of_ble_eq_true rfl⟩ CR.f (c_X10_isOrder) (fun vq1 gq1 eq1 => ?_)
  obtain ⟨rfl, fq1⟩ := eq1
  rw [fq1]
  refine J_if_eqB dX10_isSledge_4 (fun d1 => ?_) (fun d1 => ?_)
  · refine J_iconstN (n := 0) dX10_isSledge_38 ?_
    exact J_retZ dX10_isSledge_39 rfl rfl ⟨bI_f (fun q => by simp only [okG, okH, okGf, inR, Int32.lt_iff_toInt_lt, Int32.le_iff_toInt_le, tn0, tn1, tn2, tn3, tn4, tn5, tn6, tn10, tn19, tn20, tn40, tn48, tn80, tn89, tn90, tn99, tn999, tn9999, zT] at q d1 <;> omega), rfl⟩
  · refine J_iload_n dX10_isSledge_7 rfl ?_
    refine J_cSI (as := [pI s]) (st := []) dX10_isSledge_8 lX10_303 okX10_isOrder sX10_isOrder rfl rfl (Nat.le_of_ble_eq_true rfl) ⟨Nat.le_of_ble_eq_true rfl, Nat.le_of_ble_eq_true rfl⟩ CR.f (c_X10_isOrder) (fun vq3 gq3 eq3 => ?_)
    obtain ⟨rfl, fq3⟩ := eq3
    rw [fq3]
    refine J_if_eqB dX10_isSledge_11 (fun d2 => ?_) (fun d2 => ?_)
    · refine J_iconstN (n := 0) dX10_isSledge_38 ?_
      exact J_retZ dX10_isSledge_39 rfl rfl ⟨bI_f (fun q => by simp only [okG, okH, okGf, inR, Int32.lt_iff_toInt_lt, Int32.le_iff_toInt_le, tn0, tn1, tn2, tn3, tn4, tn5, tn6, tn10, tn19, tn20, tn40, tn48, tn80, tn89, tn90, tn99, tn999, tn9999, zT] at q d1 d2 <;> omega), rfl⟩
    · refine J_iload_n dX10_isSledge_14 rfl ?_
      refine J_iconstN (n := 1) dX10_isSledge_15 ?_
      refine J_bipush (x := nI 20) dX10_isSledge_16 (by decide) ?_
      refine J_cSI (as := [pI m, pI (nI 1), pI (nI 20)]) (st := []) dX10_isSledge_18 lX10_172 okX10_in sX10_in rfl rfl (Nat.le_of_ble_eq_true rfl) ⟨Nat.le_of_ble_eq_true rfl, Nat.le_of_ble_eq_true rfl⟩ CR.f (c_X10_in) (fun vq5 gq5 eq5 => ?_)
      obtain ⟨rfl, fq5⟩ := eq5
      rw [fq5]
      refine J_if_eqB dX10_isSledge_21 (fun d3 => ?_) (fun d3 => ?_)
      · refine J_iconstN (n := 0) dX10_isSledge_38 ?_
        exact J_retZ dX10_isSledge_39 rfl rfl ⟨bI_f (fun q => by simp only [okG, okH, okGf, inR, Int32.lt_iff_toInt_lt, Int32.le_iff_toInt_le, tn0, tn1, tn2, tn3, tn4, tn5, tn6, tn10, tn19, tn20, tn40, tn48, tn80, tn89, tn90, tn99, tn999, tn9999, zT] at q d1 d2 d3 <;> omega), rfl⟩
      · refine J_iload_n dX10_isSledge_24 rfl ?_
        refine J_iconstN (n := 0) dX10_isSledge_25 ?_
        refine J_bipush (x := nI 99) dX10_isSledge_26 (by decide) ?_
        refine J_cSI (as := [pI c, pI (nI 0), pI (nI 99)]) (st := []) dX10_isSledge_28 lX10_172 okX10_in sX10_in rfl rfl (Nat.le_of_ble_eq_true rfl) ⟨Nat.le_of_ble_eq_true rfl, Nat.le_of_ble_eq_true rfl⟩ CR.f (c_X10_in) (fun vq7 gq7 eq7 => ?_)
        obtain ⟨rfl, fq7⟩ := eq7
        rw [fq7]
        refine J_cvI (bI_congr (in_iffN (b := 99) (by decide))) ?_
        refine J_if_eqB dX10_isSledge_31 (fun d4 => ?_) (fun d4 => ?_)
        · refine J_iconstN (n := 0) dX10_isSledge_38 ?_
          exact J_retZ dX10_isSledge_39 rfl rfl ⟨bI_f (fun q => by simp only [okG, okH, okGf, inR, Int32.lt_iff_toInt_lt, Int32.le_iff_toInt_le, tn0, tn1, tn2, tn3, tn4, tn5, tn6, tn10, tn19, tn20, tn40, tn48, tn80, tn89, tn90, tn99, tn999, tn9999, zT] at q d1 d2 d3 d4 <;> omega), rfl⟩
        · refine J_iconstN (n := 1) dX10_isSledge_34 ?_
          refine J_goto dX10_isSledge_35 ?_
          exact J_retZ dX10_isSledge_39 rfl rfl ⟨bI_t ⟨d1, d2, by simp only [Int32.le_iff_toInt_le, tn1, tn20] at d3; omega, d4⟩, rfl⟩
theorem c_X9_sledge_in {h : PH} {p : Nat} {A : AS} {t q f s m c : Nat} (hG : GR h.2.2) (hX : XI h p A) (hW : WF A) (ht : t < aP A 0 3 0) (hq : q < 41) (hs : s < 41) (m1 : 1 ≤ m) (m2 : m ≤ 20) (hc : c < 100) (hn : 0 < aP A 0 2 0) (hf : f < aP A 0 0 0) : CtL mX9_sledge h [pR (some 0), pI (nI t), pI (nI q), pI (nI f), pI (nI s), pI (nI m), pI (nI c)] (fun v h' => v = sgF A t q s m c f ∧ XP h h' p A) := by
  have bN := hW.1
  have bk := hW.wk
  have bc := hW.cs
  have bw := hW.wn
  have bt := hW.tn
  have bf := hW.fn
  have hF : Fr 92 102 h h := Fr.rf
  have hoh : okH (nI q) (nI s) (nI m) (nI c) := ⟨inR_nI hq (by omega), inR_nI hs (by omega), by rw [nI_toInt (by omega)]; omega, inR_nI hc (by omega)⟩
  have hok : okG (aP A) (nI t) (nI q) (nI s) (nI m) (nI c) := ⟨inR_nI ht (by omega), hoh⟩
  refine Ct.of (L := [some (pR (some 0)), some (pI (nI t)), some (pI (nI q)), some (pI (nI f)), some (pI (nI s)), some (pI (nI m)), some (pI (nI c))]) rfl rfl (Nat.le_of_ble_eq_true rfl) rfl ?_
  refine J_aload_n dX9_sledge_0 rfl ?_
  refine J_iload_n dX9_sledge_1 rfl ?_
  refine J_iload_n dX9_sledge_2 rfl ?_
  refine J_iload dX9_sledge_3 rfl ?_
  refine J_iload dX9_sledge_5 rfl ?_
  refine J_iload dX9_sledge_7 rfl ?_
  refine J_cVI (ci := 9) (c := 0) (as := [pI (nI t), pI (nI q), pI (nI s), pI (nI m), pI (nI c)]) (st := []) dX9_sledge_9 lX9_280 okX9_isSledge vX9_isSledge s0 (by decide) rfl rfl rfl (Nat.le_of_ble_eq_true rfl) ⟨Nat.le_of_ble_eq_true rfl, Nat.le_of_ble_eq_true rfl⟩ CR.f (c_X9_isSledge hG hX hW) (fun vq1 gq1 eq1 => ?_)
  obtain ⟨rfl, fq1⟩ := eq1
  rw [fq1]
  refine J_if_eqB dX9_sledge_12 (fun c2 => ?_) (fun c2 => ?_)
  · exact absurd hok c2
  · refine J_aload_n dX9_sledge_15 rfl ?_
    refine J_iload_n dX9_sledge_16 rfl ?_
    refine J_cVI (ci := 9) (c := 0) (as := [pI (nI f)]) (st := []) dX9_sledge_17 lX9_241 okX9_isWeek vX9_isWeek s0 (by decide) rfl rfl rfl (Nat.le_of_ble_eq_true rfl) ⟨Nat.le_of_ble_eq_true rfl, Nat.le_of_ble_eq_true rfl⟩ CR.f (c_X9_isWeek hG hX hW) (fun vq3 gq3 eq3 => ?_)
    obtain ⟨rfl, fq3⟩ := eq3
    rw [fq3]
    refine J_cvI (bI_congr (inR_nI_iff (by omega))) ?_
    refine J_if_eqB dX9_sledge_20 (fun c4 => ?_) (fun c4 => ?_)
    · exact (show False by omega).elim
    · refine J_aload_n dX9_sledge_23 rfl ?_
      refine J_getR (r := some p) dX9_sledge_24 fX9_20 s0 (fun _ => rfl) (hX.cu) ?_
      refine J_getI dX9_sledge_27 fX9_110 hX.po.s (fun _ => rfl) ?_
      refine J_cvI (hX.wn) ?_
      refine J_if_neN dX9_sledge_30 (by omega) (fun c5 => ?_) (fun c5 => ?_)
      · refine J_aload_n dX9_sledge_37 rfl ?_
        refine J_getR (r := some 92) dX9_sledge_38 fX9_37 s0 (fun _ => rfl) (g0_5 hG) ?_
        refine J_iload_n dX9_sledge_41 rfl ?_
        refine J_iload dX9_sledge_42 rfl ?_
        refine J_iload dX9_sledge_44 rfl ?_
        refine J_iload dX9_sledge_46 rfl ?_
        refine J_cVV (ci := 2) (c := 92) (as := [pI (nI f), pI (nI s), pI (nI m), pI (nI c)]) (st := []) dX9_sledge_48 lX9_284 okX2_setSledge vX2_setSledge s92 (by decide) rfl rfl rfl (Nat.le_of_ble_eq_true rfl) ⟨Nat.le_of_ble_eq_true rfl, Nat.le_of_ble_eq_true rfl⟩ CR.f (c_X2_setSledge hG) (fun g6 eg6 => ?_)
        obtain ⟨⟨k12, k13, k14, k15⟩, f1⟩ := setSl eg6
        have hG := f1.g hG
        have hX := hX.fr hW f1 (by decide) (by decide)
        have hF := hF.tr (f1.mo (by decide) (by decide))
        refine J_aload_n dX9_sledge_51 rfl ?_
        refine J_getR (r := some 92) dX9_sledge_52 fX9_37 s0 (fun _ => rfl) (g0_5 hG) ?_
        refine J_aload_n dX9_sledge_55 rfl ?_
        refine J_getR (r := some p) dX9_sledge_56 fX9_20 s0 (fun _ => rfl) (hX.cu) ?_
        refine J_aload_n dX9_sledge_59 rfl ?_
        refine J_getR (r := some p) dX9_sledge_60 fX9_20 s0 (fun _ => rfl) (hX.cu) ?_
        refine J_getR (r := some (p + 7)) dX9_sledge_63 fX9_133 hX.po.s (fun _ => rfl) (hX.po.e10 hG) ?_
        refine J_iload_n dX9_sledge_66 rfl ?_
        refine J_aald4N (r := some (p + 9 + 7 * t)) dX9_sledge_67 hX.po.s7 (by decide) (by omega) (hX.po.eth hG (by omega)) ?_
        refine J_iload_n dX9_sledge_68 rfl ?_
        refine J_cVL (ci := 2) (c := 92) (as := [pR (some p), pR (some (p + 9 + 7 * t)), pI (nI q)]) (st := []) dX9_sledge_69 lX9_288 okX2_sledgeScore vX2_sledgeScore s92 (by decide) rfl rfl rfl (Nat.le_of_ble_eq_true rfl) ⟨Nat.le_of_ble_eq_true rfl, Nat.le_of_ble_eq_true rfl⟩ CR.f (c_X2_sledgeScore hG hX.po (hX.th hW ht) (hX.ta hW ht) hX.wn (by omega) hX.wk (by omega) (x := aX A) (fun w hw => hX.x hw) (u := aV A t) (fun w hw => hX.wa hW ht (by omega)) k12 k13 k14 k15 (by omega) (by omega) (by omega) (by omega) (by omega) (by omega)) (fun vg7 g7 eg7 => ?_)
        obtain ⟨rfl, f2⟩ := eg7
        have hG := f2.g hG
        have hX := hX.fr hW f2 (by decide) (by decide)
        have hF := hF.tr (f2.mo (by decide) (by decide))
        exact J_retL dX9_sledge_72 rfl ⟨rfl, hX, hF.mo (by decide) (by decide)⟩
      · exact (show False by omega).elim
theorem c_X9_sledge_no {h : PH} {p : Nat} {A : AS} {t q f s m c : Int32} (hG : GR h.2.2) (hX : XI h p A) (hW : WF A) (hno : ¬ okGf (aP A) t q f s m c) : CtL mX9_sledge h [pR (some 0), pI t, pI q, pI f, pI s, pI m, pI c] (fun v h' => v = -9000000000000000000 ∧ XP h h' p A) := by
  have bN := hW.1
  have bk := hW.wk
  have bc := hW.cs
  have bw := hW.wn
  have bt := hW.tn
  have bf := hW.fn
  refine Ct.of (L := [some (pR (some 0)), some (pI t), some (pI q), some (pI f), some (pI s), some (pI m), some (pI c)]) rfl rfl (Nat.le_of_ble_eq_true rfl) rfl ?_
  refine J_aload_n dX9_sledge_0 rfl ?_
  refine J_iload_n dX9_sledge_1 rfl ?_
  refine J_iload_n dX9_sledge_2 rfl ?_
  refine J_iload dX9_sledge_3 rfl ?_
  refine J_iload dX9_sledge_5 rfl ?_
  refine J_iload dX9_sledge_7 rfl ?_
  refine J_cVI (ci := 9) (c := 0) (as := [pI t, pI q, pI s, pI m, pI c]) (st := []) dX9_sledge_9 lX9_280 okX9_isSledge vX9_isSledge s0 (by decide) rfl rfl rfl (Nat.le_of_ble_eq_true rfl) ⟨Nat.le_of_ble_eq_true rfl, Nat.le_of_ble_eq_true rfl⟩ CR.f (c_X9_isSledge hG hX hW) (fun vq1 gq1 eq1 => ?_)
  obtain ⟨rfl, fq1⟩ := eq1
  rw [fq1]
  refine J_if_eqB dX9_sledge_12 (fun d1 => ?_) (fun d1 => ?_)
  · refine J_ldc2 dX9_sledge_33 kX9_182 ?_
    exact J_retL dX9_sledge_36 rfl ⟨rfl, hX, Fr.rf⟩
  · refine J_aload_n dX9_sledge_15 rfl ?_
    refine J_iload_n dX9_sledge_16 rfl ?_
    refine J_cVI (ci := 9) (c := 0) (as := [pI f]) (st := []) dX9_sledge_17 lX9_241 okX9_isWeek vX9_isWeek s0 (by decide) rfl rfl rfl (Nat.le_of_ble_eq_true rfl) ⟨Nat.le_of_ble_eq_true rfl, Nat.le_of_ble_eq_true rfl⟩ CR.f (c_X9_isWeek hG hX hW) (fun vq3 gq3 eq3 => ?_)
    obtain ⟨rfl, fq3⟩ := eq3
    rw [fq3]
    refine J_if_eqB dX9_sledge_20 (fun d2 => ?_) (fun d2 => ?_)
    · refine J_ldc2 dX9_sledge_33 kX9_182 ?_
      exact J_retL dX9_sledge_36 rfl ⟨rfl, hX, Fr.rf⟩
    · refine J_aload_n dX9_sledge_23 rfl ?_
      refine J_getR (r := some p) dX9_sledge_24 fX9_20 s0 (fun _ => rfl) (hX.cu) ?_
      refine J_getI dX9_sledge_27 fX9_110 hX.po.s (fun _ => rfl) ?_
      refine J_cvI (hX.wn) ?_
      refine J_if_neN dX9_sledge_30 (by omega) (fun d3 => ?_) (fun d3 => ?_)
      · exact absurd ⟨d1, d2, by omega⟩ hno
      · refine J_ldc2 dX9_sledge_33 kX9_182 ?_
        exact J_retL dX9_sledge_36 rfl ⟨rfl, hX, Fr.rf⟩
theorem c_X9_sledge {h : PH} {p : Nat} {A : AS} {t q f s m c : Int32} (hG : GR h.2.2) (hX : XI h p A) (hW : WF A) : CtL mX9_sledge h [pR (some 0), pI t, pI q, pI f, pI s, pI m, pI c] (fun v h' => v = sledgeA A t q f s m c ∧ XP h h' p A) := by
  by_cases hok : okGf (aP A) t q f s m c
  · obtain ⟨⟨h1, h2, h3, h4, h5⟩, h6, h7⟩ := id hok
    obtain ⟨t, ht, rfl⟩ := inR_of h1
    obtain ⟨q, hq, rfl⟩ := inR_of h2
    obtain ⟨s, hs, rfl⟩ := inR_of h3
    obtain ⟨m, hm, rfl⟩ := inR_of (n := 21) (t := m) ⟨by omega, by omega⟩
    obtain ⟨c, hc, rfl⟩ := inR_of h5
    have bt := hW.tn
    have bk := hW.wk
    rw [nI_toInt (by omega)] at h4
    have h4 : 1 ≤ m ∧ m ≤ 20 := by omega
    obtain ⟨f, hf, rfl⟩ := inR_of h6
    rw [sledgeA, if_pos hok, cl, cl, cl, cl, cl, cl, nI_clamp (by omega), nI_clamp (by omega), nI_clamp (by omega), nI_clamp (by omega), nI_clamp (by omega), nI_clamp (by omega)]
    exact c_X9_sledge_in hG hX hW ht hq hs h4.1 h4.2 hc h7 hf
  · rw [sledgeA, if_neg hok]
    exact c_X9_sledge_no hG hX hW hok
theorem c_X10_sledgeBy {h : PH} {A : AS} {t q f s m c : Nat} (hG : GR h.2.2) (hM : MI h A) (hW : WF A) (ht : t < aP A 0 3 0) (hq : q < 41) (hs : s < 41) (m1 : 1 ≤ m) (m2 : m ≤ 20) (hc : c < 100) (hn : 0 < aP A 0 2 0) (hf : f < aP A 0 0 0) : CtL mX10_sledgeBy h [pR (some 158), pI (nI t), pI (nI q), pI (nI f), pI (nI s), pI (nI m), pI (nI c)] (fun v h' => v = sgF A t q s m c f ∧ MFr h h') := by
  have bN := hW.1
  have bk := hW.wk
  have bc := hW.cs
  have bw := hW.wn
  have bt := hW.tn
  have bf := hW.fn
  have hG0 := hG
  refine Ct.of (L := [some (pR (some 158)), some (pI (nI t)), some (pI (nI q)), some (pI (nI f)), some (pI (nI s)), some (pI (nI m)), some (pI (nI c)), none, none, none]) rfl rfl (Nat.le_of_ble_eq_true rfl) rfl ?_
  refine J_aload_n dX10_sledgeBy_0 rfl ?_
  refine J_iload_n dX10_sledgeBy_1 rfl ?_
  refine J_putI dX10_sledgeBy_2 fX10_68 s158 rfl (vp_nar_int _) rfl (fun _ _ => rfl) ?_
  refine J_aload_n dX10_sledgeBy_5 rfl ?_
  refine J_iload dX10_sledgeBy_6 rfl ?_
  refine J_putI dX10_sledgeBy_8 fX10_297 s158 rfl (vp_nar_int _) rfl (fun _ _ => rfl) ?_
  refine J_aload_n dX10_sledgeBy_11 rfl ?_
  refine J_iload dX10_sledgeBy_12 rfl ?_
  refine J_putI dX10_sledgeBy_14 fX10_300 s158 rfl (vp_nar_int _) rfl (fun _ _ => rfl) ?_
  refine J_lconst (x := 0) dX10_sledgeBy_17 rfl ?_
  refine J_lstore (L' := [some (pR (some 158)), some (pI (nI t)), some (pI (nI q)), some (pI (nI f)), some (pI (nI s)), some (pI (nI m)), some (pI (nI c)), some (pL 0), none, none]) dX10_sledgeBy_18 (by decide) rfl ?_
  refine J_iconstN (n := 0) dX10_sledgeBy_20 ?_
  refine J_istore (L' := [some (pR (some 158)), some (pI (nI t)), some (pI (nI q)), some (pI (nI f)), some (pI (nI s)), some (pI (nI m)), some (pI (nI c)), some (pL 0), none, some (pI (nI 0))]) dX10_sledgeBy_21 (by decide) rfl ?_
  refine J_L (L' := [some (pR (some 158)), some (pI (nI t)), some (pI (nI q)), some (pI (nI f)), some (pI (nI s)), some (pI (nI m)), some (pI (nI c)), some (pL (sL64 (fun w => lN (aP A 1 w 0) * sgM A t q s m c f w) 0)), none, some (pI (nI 0))]) rfl ?_
  generalize hg : sI (sI (sI h 158 35 (nI f)) 158 36 (nI s)) 158 37 (nI m) = g
  have eg : (∀ k, k ≠ 158 → g.1 k = h.1 k) ∧ g.1 158 35 = nI f ∧ g.1 158 36 = nI s ∧ g.1 158 37 = nI m := by rw [← hg]; exact sg3
  have gl : g.2 = h.2 := by rw [← hg]; rfl
  refine J_forI (α := Unit) (L := fun i1 aa1 => [some (pR (some 158)), some (pI (nI t)), some (pI (nI q)), some (pI (nI f)), some (pI (nI s)), some (pI (nI m)), some (pI (nI c)), some (pL (sL64 (fun w => lN (aP A 1 w 0) * sgM A t q s m c f w) i1)), none, some (pI (nI i1))]) (fun i1 aa1 h1 => FG g h1) (e := aP A 0 2 0) (fun aa1 h1 hI1 => ?_) (fun i1 aa1 h1 hi1 hI1 ih1 => ?_) 0 (()) _ (by omega) (FG.rf)
  · show J _ _ _ _ _ [some (pR (some 158)), some (pI (nI t)), some (pI (nI q)), some (pI (nI f)), some (pI (nI s)), some (pI (nI m)), some (pI (nI c)), some (pL (sL64 (fun w => lN (aP A 1 w 0) * sgM A t q s m c f w) (aP A 0 2 0))), none, some (pI (nI (aP A 0 2 0)))] _ _ h1
    have hG : GR h1.2.2 := by rw [hI1.2.2.2, gl]; exact hG0
    have gi : ∀ {c k : Nat}, c ≠ 158 → c ≠ 173 → c ≠ 174 → c ≠ 175 → h1.1 c k = h.1 c k := fun x1 x2 x3 x4 => (hI1.i x1 x2 x3 x4).trans (congrFun (eg.1 _ x1) _)
    refine J_iload dX10_sledgeBy_23 rfl ?_
    refine J_aload_n dX10_sledgeBy_25 rfl ?_
    refine J_getR (r := some 160) dX10_sledgeBy_26 fX10_17 s158 (fun _ => rfl) (g158_12 hG) ?_
    refine J_iconstN (n := 2) dX10_sledgeBy_29 ?_
    refine J_ialdN dX10_sledgeBy_30 s160 (by decide) (by omega) ?_
    refine J_cvI (((gi (by decide) (by decide) (by decide) (by decide)).trans (hM.nm (k := 2) (by decide)))) ?_
    refine J_icmp_geN dX10_sledgeBy_31 (by omega) (by omega) (fun c1 => ?_) (fun c1 => ?_)
    · refine J_aload_n dX10_sledgeBy_70 rfl ?_
      refine J_iconst (x := -1) dX10_sledgeBy_71 (by decide) ?_
      refine J_putI dX10_sledgeBy_72 fX10_68 s158 rfl (vp_nar_int _) rfl (fun _ _ => rfl) ?_
      refine J_lload dX10_sledgeBy_75 rfl ?_
      exact J_retL dX10_sledgeBy_77 rfl ⟨sgM_eq hW hn hf m2 (by omega), MFr.sg hM.k35 (by rw [hg]; exact hI1)⟩
    · exact (show False by omega).elim
  · show J _ _ _ _ _ [some (pR (some 158)), some (pI (nI t)), some (pI (nI q)), some (pI (nI f)), some (pI (nI s)), some (pI (nI m)), some (pI (nI c)), some (pL (sL64 (fun w => lN (aP A 1 w 0) * sgM A t q s m c f w) i1)), none, some (pI (nI i1))] _ _ h1
    have hG : GR h1.2.2 := by rw [hI1.2.2.2, gl]; exact hG0
    have gi : ∀ {c k : Nat}, c ≠ 158 → c ≠ 173 → c ≠ 174 → c ≠ 175 → h1.1 c k = h.1 c k := fun x1 x2 x3 x4 => (hI1.i x1 x2 x3 x4).trans (congrFun (eg.1 _ x1) _)
    have bx := hW.x hi1
    refine J_iload dX10_sledgeBy_23 rfl ?_
    refine J_aload_n dX10_sledgeBy_25 rfl ?_
    refine J_getR (r := some 160) dX10_sledgeBy_26 fX10_17 s158 (fun _ => rfl) (g158_12 hG) ?_
    refine J_iconstN (n := 2) dX10_sledgeBy_29 ?_
    refine J_ialdN dX10_sledgeBy_30 s160 (by decide) (by omega) ?_
    refine J_cvI (((gi (by decide) (by decide) (by decide) (by decide)).trans (hM.nm (k := 2) (by decide)))) ?_
    refine J_icmp_geN dX10_sledgeBy_31 (by omega) (by omega) (fun c2 => ?_) (fun c2 => ?_)
    · exact (show False by omega).elim
    · refine J_lload dX10_sledgeBy_34 rfl ?_
      refine J_aload_n dX10_sledgeBy_36 rfl ?_
      refine J_iload dX10_sledgeBy_37 rfl ?_
      refine J_cVI (ci := 10) (c := 158) (as := [pI (nI i1)]) (st := [pL (sL64 (fun w => lN (aP A 1 w 0) * sgM A t q s m c f w) i1)]) dX10_sledgeBy_39 lX10_240 okX10_weight vX10_weight s158 (by decide) rfl rfl rfl (Nat.le_of_ble_eq_true rfl) ⟨Nat.le_of_ble_eq_true rfl, Nat.le_of_ble_eq_true rfl⟩ CR.f (c_X10_weight hG (by omega) ((gi (by decide) (by decide) (by decide) (by decide)).trans (hM.x hi1))) (fun vq3 gq3 eq3 => ?_)
      obtain ⟨rfl, fq3⟩ := eq3
      rw [fq3]
      refine J_i2lN dX10_sledgeBy_42 (by omega) ?_
      refine J_aload_n dX10_sledgeBy_43 rfl ?_
      refine J_iload_n dX10_sledgeBy_44 rfl ?_
      refine J_iload_n dX10_sledgeBy_45 rfl ?_
      refine J_iload dX10_sledgeBy_46 rfl ?_
      refine J_cVL (ci := 10) (c := 158) (as := [pI (nI t), pI (nI q), pI (nI i1)]) (st := [pL (lN (aP A 1 i1 0)), pL (sL64 (fun w => lN (aP A 1 w 0) * sgM A t q s m c f w) i1)]) dX10_sledgeBy_48 lX10_317 okX10_scoreIn vX10_scoreIn s158 (by decide) rfl rfl rfl (Nat.le_of_ble_eq_true rfl) ⟨Nat.le_of_ble_eq_true rfl, Nat.le_of_ble_eq_true rfl⟩ CR.f (c_X10_scoreIn (sf := f + 1) (S := s) (M := m) hG (by omega) (((hM.tma hW ht).o eg.1).fg hI1) ((gi (by decide) (by decide) (by decide) (by decide)).trans (hM.nm (by decide))) (by omega) ((hI1.2.1 35 (by decide)).trans eg.2.1) (by omega) (fun _ => ⟨(hI1.2.1 36 (by decide)).trans eg.2.2.1, (hI1.2.1 37 (by decide)).trans eg.2.2.2, by omega, by omega, by omega⟩) (by omega) (((hM.wm hW ht (by omega)).o eg.1).fg hI1) (by omega)) (fun v2 g2 e2 => ?_)
      obtain ⟨rfl, e38, f1⟩ := e2
      have hG := f1.g hG
      refine J_iload dX10_sledgeBy_51 rfl ?_
      refine J_i2lN dX10_sledgeBy_53 (by omega) ?_
      refine J_aload_n dX10_sledgeBy_54 rfl ?_
      refine J_getL dX10_sledgeBy_55 fX10_283 s158 (fun _ => rfl) ?_
      refine J_cvL (e38) ?_
      refine J_lmul dX10_sledgeBy_58 ?_
      refine J_lsub dX10_sledgeBy_59 ?_
      refine J_lmul dX10_sledgeBy_60 ?_
      refine J_ladd dX10_sledgeBy_61 ?_
      refine J_lstore (L' := [some (pR (some 158)), some (pI (nI t)), some (pI (nI q)), some (pI (nI f)), some (pI (nI s)), some (pI (nI m)), some (pI (nI c)), some (pL ((sL64 (fun w => lN (aP A 1 w 0) * sgM A t q s m c f w) i1) + ((lN (aP A 1 i1 0)) * ((vF (aP A 2 t) (aU A t 0) (aU A t 1) (aV A t i1) (f + 1) s m 0 q (aP A 0 0 0) - lN (aP A 2 t 1 * q) * tenL (aP A 0 0 0)) - ((lN c) * (CW (aU A t 0) (aU A t 1) (aP A 2 t 5) (aV A t i1) (f + 1) s m 0 q (aP A 0 0 0) (aP A 0 0 0))))))), none, some (pI (nI i1))]) dX10_sledgeBy_62 (by decide) rfl ?_
      refine J_iincN (n := 1) (L' := [some (pR (some 158)), some (pI (nI t)), some (pI (nI q)), some (pI (nI f)), some (pI (nI s)), some (pI (nI m)), some (pI (nI c)), some (pL ((sL64 (fun w => lN (aP A 1 w 0) * sgM A t q s m c f w) i1) + ((lN (aP A 1 i1 0)) * ((vF (aP A 2 t) (aU A t 0) (aU A t 1) (aV A t i1) (f + 1) s m 0 q (aP A 0 0 0) - lN (aP A 2 t 1 * q) * tenL (aP A 0 0 0)) - ((lN c) * (CW (aU A t 0) (aU A t 1) (aP A 2 t 5) (aV A t i1) (f + 1) s m 0 q (aP A 0 0 0) (aP A 0 0 0))))))), none, some (pI (nI (i1 + 1)))]) dX10_sledgeBy_64 rfl (by decide) rfl ?_
      refine J_goto dX10_sledgeBy_67 ?_
      refine J_L (L' := [some (pR (some 158)), some (pI (nI t)), some (pI (nI q)), some (pI (nI f)), some (pI (nI s)), some (pI (nI m)), some (pI (nI c)), some (pL (sL64 (fun w => lN (aP A 1 w 0) * sgM A t q s m c f w) (i1 + 1))), none, some (pI (nI (i1 + 1)))]) rfl ?_
      exact ih1 () _ (hI1.tr f1)
theorem c_X10_sledge__in {h : PH} {A : AS} {t q f s m c : Nat} (hG : GR h.2.2) (hM : MI h A) (hW : WF A) (ht : t < aP A 0 3 0) (hq : q < 41) (hs : s < 41) (m1 : 1 ≤ m) (m2 : m ≤ 20) (hc : c < 100) (hn : 0 < aP A 0 2 0) (hf : f < aP A 0 0 0) : CtL mX10_sledge_ h [pR (some 158), pI (nI t), pI (nI q), pI (nI f), pI (nI s), pI (nI m), pI (nI c)] (fun v h' => v = sgF A t q s m c f ∧ MP h h' A) := by
  have bN := hW.1
  have bk := hW.wk
  have bc := hW.cs
  have bw := hW.wn
  have bt := hW.tn
  have bf := hW.fn
  have hQ : MFr h h := MFr.rf
  have hoh : okH (nI q) (nI s) (nI m) (nI c) := ⟨inR_nI hq (by omega), inR_nI hs (by omega), by rw [nI_toInt (by omega)]; omega, inR_nI hc (by omega)⟩
  have hok : okG (aP A) (nI t) (nI q) (nI s) (nI m) (nI c) := ⟨inR_nI ht (by omega), hoh⟩
  refine Ct.of (L := [some (pR (some 158)), some (pI (nI t)), some (pI (nI q)), some (pI (nI f)), some (pI (nI s)), some (pI (nI m)), some (pI (nI c))]) rfl rfl (Nat.le_of_ble_eq_true rfl) rfl ?_
  refine J_aload_n dX10_sledge__0 rfl ?_
  refine J_iload_n dX10_sledge__1 rfl ?_
  refine J_cVI (ci := 10) (c := 158) (as := [pI (nI t)]) (st := []) dX10_sledge__2 lX10_243 okX10_isThing vX10_isThing s158 (by decide) rfl rfl rfl (Nat.le_of_ble_eq_true rfl) ⟨Nat.le_of_ble_eq_true rfl, Nat.le_of_ble_eq_true rfl⟩ CR.f (c_X10_isThing hG (hM.nm (by decide)) (by omega)) (fun vq1 gq1 eq1 => ?_)
  obtain ⟨rfl, fq1⟩ := eq1
  rw [fq1]
  refine J_cvI (bI_congr (inR_nI_iff (by omega))) ?_
  refine J_if_eqB dX10_sledge__5 (fun c2 => ?_) (fun c2 => ?_)
  · exact (show False by omega).elim
  · refine J_iload_n dX10_sledge__8 rfl ?_
    refine J_iconstN (n := 0) dX10_sledge__9 ?_
    refine J_aload_n dX10_sledge__10 rfl ?_
    refine J_getR (r := some 160) dX10_sledge__11 fX10_17 s158 (fun _ => rfl) (g158_12 hG) ?_
    refine J_iconstN (n := 0) dX10_sledge__14 ?_
    refine J_ialdN dX10_sledge__15 s160 (by decide) (by omega) ?_
    refine J_cvI ((hM.nm (k := 0) (by decide))) ?_
    refine J_iconstN (n := 1) dX10_sledge__16 ?_
    refine J_isubN dX10_sledge__17 (by omega) ?_
    refine J_cSI (as := [pI (nI f), pI (nI 0), pI (nI (aP A 0 0 0 - 1))]) (st := []) dX10_sledge__18 lX10_172 okX10_in sX10_in rfl rfl (Nat.le_of_ble_eq_true rfl) ⟨Nat.le_of_ble_eq_true rfl, Nat.le_of_ble_eq_true rfl⟩ CR.f (c_X10_in) (fun vq3 gq3 eq3 => ?_)
    obtain ⟨rfl, fq3⟩ := eq3
    rw [fq3]
    refine J_cvI (bI_congr (inN (by omega) (by omega) (by omega))) ?_
    refine J_if_eqB dX10_sledge__21 (fun c4 => ?_) (fun c4 => ?_)
    · exact (show False by omega).elim
    · refine J_iload_n dX10_sledge__24 rfl ?_
      refine J_iload dX10_sledge__25 rfl ?_
      refine J_iload dX10_sledge__27 rfl ?_
      refine J_iload dX10_sledge__29 rfl ?_
      refine J_cSI (as := [pI (nI q), pI (nI s), pI (nI m), pI (nI c)]) (st := []) dX10_sledge__31 lX10_360 okX10_isSledge sX10_isSledge rfl rfl (Nat.le_of_ble_eq_true rfl) ⟨Nat.le_of_ble_eq_true rfl, Nat.le_of_ble_eq_true rfl⟩ CR.f (c_X10_isSledge) (fun vq5 gq5 eq5 => ?_)
      obtain ⟨rfl, fq5⟩ := eq5
      rw [fq5]
      refine J_if_eqB dX10_sledge__34 (fun c6 => ?_) (fun c6 => ?_)
      · exact absurd hoh c6
      · refine J_aload_n dX10_sledge__37 rfl ?_
        refine J_cVI (ci := 10) (c := 158) (as := []) (st := []) dX10_sledge__38 lX10_234 okX10_hasWinters vX10_hasWinters s158 (by decide) rfl rfl rfl (Nat.le_of_ble_eq_true rfl) ⟨Nat.le_of_ble_eq_true rfl, Nat.le_of_ble_eq_true rfl⟩ CR.f (c_X10_hasWinters hG (hM.nm (by decide)) (by omega)) (fun vq7 gq7 eq7 => ?_)
        obtain ⟨rfl, fq7⟩ := eq7
        rw [fq7]
        refine J_if_eqB dX10_sledge__41 (fun c8 => ?_) (fun c8 => ?_)
        · exact (show False by omega).elim
        · refine J_aload_n dX10_sledge__44 rfl ?_
          refine J_iload_n dX10_sledge__45 rfl ?_
          refine J_iload_n dX10_sledge__46 rfl ?_
          refine J_iload_n dX10_sledge__47 rfl ?_
          refine J_iload dX10_sledge__48 rfl ?_
          refine J_iload dX10_sledge__50 rfl ?_
          refine J_iload dX10_sledge__52 rfl ?_
          refine J_cVL (ci := 10) (c := 158) (as := [pI (nI t), pI (nI q), pI (nI f), pI (nI s), pI (nI m), pI (nI c)]) (st := []) dX10_sledge__54 lX10_364 okX10_sledgeBy vX10_sledgeBy s158 (by decide) rfl rfl rfl (Nat.le_of_ble_eq_true rfl) ⟨Nat.le_of_ble_eq_true rfl, Nat.le_of_ble_eq_true rfl⟩ CR.f (c_X10_sledgeBy hG hM hW ht hq hs m1 m2 hc hn (by omega)) (fun vg9 g9 eg9 => ?_)
          obtain ⟨rfl, f1⟩ := eg9
          have hG := f1.g hG
          have hM := hM.mq f1
          have hQ := hQ.tr f1
          refine J_goto dX10_sledge__57 ?_
          exact J_retL dX10_sledge__63 rfl ⟨rfl, hM, hQ.fr⟩
theorem c_X10_sledge__no {h : PH} {A : AS} {t q f s m c : Int32} (hG : GR h.2.2) (hM : MI h A) (hW : WF A) (hno : ¬ okGf (aP A) t q f s m c) : CtL mX10_sledge_ h [pR (some 158), pI t, pI q, pI f, pI s, pI m, pI c] (fun v h' => v = -9000000000000000000 ∧ MP h h' A) := by
  have bN := hW.1
  have bk := hW.wk
  have bc := hW.cs
  have bw := hW.wn
  have bt := hW.tn
  have bf := hW.fn
  refine Ct.of (L := [some (pR (some 158)), some (pI t), some (pI q), some (pI f), some (pI s), some (pI m), some (pI c)]) rfl rfl (Nat.le_of_ble_eq_true rfl) rfl ?_
  refine J_aload_n dX10_sledge__0 rfl ?_
  refine J_iload_n dX10_sledge__1 rfl ?_
  refine J_cVI (ci := 10) (c := 158) (as := [pI t]) (st := []) dX10_sledge__2 lX10_243 okX10_isThing vX10_isThing s158 (by decide) rfl rfl rfl (Nat.le_of_ble_eq_true rfl) ⟨Nat.le_of_ble_eq_true rfl, Nat.le_of_ble_eq_true rfl⟩ CR.f (c_X10_isThing hG (hM.nm (by decide)) (by omega)) (fun vq1 gq1 eq1 => ?_)
  obtain ⟨rfl, fq1⟩ := eq1
  rw [fq1]
  refine J_if_eqB dX10_sledge__5 (fun d1 => ?_) (fun d1 => ?_)
  · refine J_ldc2 dX10_sledge__60 kX10_309 ?_
    exact J_retL dX10_sledge__63 rfl ⟨rfl, hM, Fr.rf⟩
  · refine J_iload_n dX10_sledge__8 rfl ?_
    refine J_iconstN (n := 0) dX10_sledge__9 ?_
    refine J_aload_n dX10_sledge__10 rfl ?_
    refine J_getR (r := some 160) dX10_sledge__11 fX10_17 s158 (fun _ => rfl) (g158_12 hG) ?_
    refine J_iconstN (n := 0) dX10_sledge__14 ?_
    refine J_ialdN dX10_sledge__15 s160 (by decide) (by omega) ?_
    refine J_cvI ((hM.nm (k := 0) (by decide))) ?_
    refine J_iconstN (n := 1) dX10_sledge__16 ?_
    refine J_isubN dX10_sledge__17 (by omega) ?_
    refine J_cSI (as := [pI f, pI (nI 0), pI (nI (aP A 0 0 0 - 1))]) (st := []) dX10_sledge__18 lX10_172 okX10_in sX10_in rfl rfl (Nat.le_of_ble_eq_true rfl) ⟨Nat.le_of_ble_eq_true rfl, Nat.le_of_ble_eq_true rfl⟩ CR.f (c_X10_in) (fun vq3 gq3 eq3 => ?_)
    obtain ⟨rfl, fq3⟩ := eq3
    rw [fq3]
    refine J_if_eqB dX10_sledge__21 (fun d2 => ?_) (fun d2 => ?_)
    · refine J_ldc2 dX10_sledge__60 kX10_309 ?_
      exact J_retL dX10_sledge__63 rfl ⟨rfl, hM, Fr.rf⟩
    · refine J_iload_n dX10_sledge__24 rfl ?_
      refine J_iload dX10_sledge__25 rfl ?_
      refine J_iload dX10_sledge__27 rfl ?_
      refine J_iload dX10_sledge__29 rfl ?_
      refine J_cSI (as := [pI q, pI s, pI m, pI c]) (st := []) dX10_sledge__31 lX10_360 okX10_isSledge sX10_isSledge rfl rfl (Nat.le_of_ble_eq_true rfl) ⟨Nat.le_of_ble_eq_true rfl, Nat.le_of_ble_eq_true rfl⟩ CR.f (c_X10_isSledge) (fun vq5 gq5 eq5 => ?_)
      obtain ⟨rfl, fq5⟩ := eq5
      rw [fq5]
      refine J_if_eqB dX10_sledge__34 (fun d3 => ?_) (fun d3 => ?_)
      · refine J_ldc2 dX10_sledge__60 kX10_309 ?_
        exact J_retL dX10_sledge__63 rfl ⟨rfl, hM, Fr.rf⟩
      · refine J_aload_n dX10_sledge__37 rfl ?_
        refine J_cVI (ci := 10) (c := 158) (as := []) (st := []) dX10_sledge__38 lX10_234 okX10_hasWinters vX10_hasWinters s158 (by decide) rfl rfl rfl (Nat.le_of_ble_eq_true rfl) ⟨Nat.le_of_ble_eq_true rfl, Nat.le_of_ble_eq_true rfl⟩ CR.f (c_X10_hasWinters hG (hM.nm (by decide)) (by omega)) (fun vq7 gq7 eq7 => ?_)
        obtain ⟨rfl, fq7⟩ := eq7
        rw [fq7]
        refine J_if_eqB dX10_sledge__41 (fun d4 => ?_) (fun d4 => ?_)
        · refine J_ldc2 dX10_sledge__60 kX10_309 ?_
          exact J_retL dX10_sledge__63 rfl ⟨rfl, hM, Fr.rf⟩
        · exact absurd ⟨⟨d1, d3⟩, by have z := inR_e (by omega) d2; rw [show aP A 0 0 0 - 1 + 1 = aP A 0 0 0 by omega] at z; exact z, d4⟩ hno
theorem c_X10_sledge_ {h : PH} {A : AS} {t q f s m c : Int32} (hG : GR h.2.2) (hM : MI h A) (hW : WF A) : CtL mX10_sledge_ h [pR (some 158), pI t, pI q, pI f, pI s, pI m, pI c] (fun v h' => v = sledgeA A t q f s m c ∧ MP h h' A) := by
  by_cases hok : okGf (aP A) t q f s m c
  · obtain ⟨⟨h1, h2, h3, h4, h5⟩, h6, h7⟩ := id hok
    obtain ⟨t, ht, rfl⟩ := inR_of h1
    obtain ⟨q, hq, rfl⟩ := inR_of h2
    obtain ⟨s, hs, rfl⟩ := inR_of h3
    obtain ⟨m, hm, rfl⟩ := inR_of (n := 21) (t := m) ⟨by omega, by omega⟩
    obtain ⟨c, hc, rfl⟩ := inR_of h5
    have bt := hW.tn
    have bk := hW.wk
    rw [nI_toInt (by omega)] at h4
    have h4 : 1 ≤ m ∧ m ≤ 20 := by omega
    obtain ⟨f, hf, rfl⟩ := inR_of h6
    rw [sledgeA, if_pos hok, cl, cl, cl, cl, cl, cl, nI_clamp (by omega), nI_clamp (by omega), nI_clamp (by omega), nI_clamp (by omega), nI_clamp (by omega), nI_clamp (by omega)]
    exact c_X10_sledge__in hG hM hW ht hq hs h4.1 h4.2 hc h7 hf
  · rw [sledgeA, if_neg hok]
    exact c_X10_sledge__no hG hM hW hok
theorem c_X9_when_in {h : PH} {p : Nat} {A : AS} {t q s m c : Nat} (hG : GR h.2.2) (hX : XI h p A) (hW : WF A) (ht : t < aP A 0 3 0) (hq : q < 41) (hs : s < 41) (m1 : 1 ≤ m) (m2 : m ≤ 20) (hc : c < 100) (hn : 0 < aP A 0 2 0) : CtI mX9_when h [pR (some 0), pI (nI t), pI (nI q), pI (nI s), pI (nI m), pI (nI c)] (fun v h' => v = nI (bst (sgF A t q s m c) (aP A 0 0 0 - 1)) ∧ XP h h' p A) := by
  have bN := hW.1
  have bk := hW.wk
  have bc := hW.cs
  have bw := hW.wn
  have bt := hW.tn
  have bf := hW.fn
  have hoh : okH (nI q) (nI s) (nI m) (nI c) := ⟨inR_nI hq (by omega), inR_nI hs (by omega), by rw [nI_toInt (by omega)]; omega, inR_nI hc (by omega)⟩
  have hok : okG (aP A) (nI t) (nI q) (nI s) (nI m) (nI c) := ⟨inR_nI ht (by omega), hoh⟩
  have hX0 := hX
  have hG0 := hG
  refine Ct.of (L := [some (pR (some 0)), some (pI (nI t)), some (pI (nI q)), some (pI (nI s)), some (pI (nI m)), some (pI (nI c)), none, none, none, none, none, none]) rfl rfl (Nat.le_of_ble_eq_true rfl) rfl ?_
  refine J_aload_n dX9_when_0 rfl ?_
  refine J_iload_n dX9_when_1 rfl ?_
  refine J_iload_n dX9_when_2 rfl ?_
  refine J_iload_n dX9_when_3 rfl ?_
  refine J_iload dX9_when_4 rfl ?_
  refine J_iload dX9_when_6 rfl ?_
  refine J_cVI (ci := 9) (c := 0) (as := [pI (nI t), pI (nI q), pI (nI s), pI (nI m), pI (nI c)]) (st := []) dX9_when_8 lX9_280 okX9_isSledge vX9_isSledge s0 (by decide) rfl rfl rfl (Nat.le_of_ble_eq_true rfl) ⟨Nat.le_of_ble_eq_true rfl, Nat.le_of_ble_eq_true rfl⟩ CR.f (c_X9_isSledge hG hX hW) (fun vq1 gq1 eq1 => ?_)
  obtain ⟨rfl, fq1⟩ := eq1
  rw [fq1]
  refine J_if_neB dX9_when_11 (fun c2 => ?_) (fun c2 => ?_)
  · refine J_aload_n dX9_when_17 rfl ?_
    refine J_getR (r := some p) dX9_when_18 fX9_20 s0 (fun _ => rfl) (hX.cu) ?_
    refine J_getI dX9_when_21 fX9_110 hX.po.s (fun _ => rfl) ?_
    refine J_cvI (hX.wn) ?_
    refine J_if_neN dX9_when_24 (by omega) (fun c3 => ?_) (fun c3 => ?_)
    · refine J_iconstN (n := 0) dX9_when_30 ?_
      refine J_istore (L' := [some (pR (some 0)), some (pI (nI t)), some (pI (nI q)), some (pI (nI s)), some (pI (nI m)), some (pI (nI c)), some (pI (nI 0)), none, none, none, none, none]) dX9_when_31 (by decide) rfl ?_
      refine J_lconst (x := 0) dX9_when_33 rfl ?_
      refine J_lstore (L' := [some (pR (some 0)), some (pI (nI t)), some (pI (nI q)), some (pI (nI s)), some (pI (nI m)), some (pI (nI c)), some (pI (nI 0)), some (pL 0), none, none, none, none]) dX9_when_34 (by decide) rfl ?_
      refine J_iconstN (n := 0) dX9_when_36 ?_
      refine J_istore (L' := [some (pR (some 0)), some (pI (nI t)), some (pI (nI q)), some (pI (nI s)), some (pI (nI m)), some (pI (nI c)), some (pI (nI 0)), some (pL 0), none, some (pI (nI 0)), none, none]) dX9_when_37 (by decide) rfl ?_
      refine J_L (L' := [some (pR (some 0)), some (pI (nI t)), some (pI (nI q)), some (pI (nI s)), some (pI (nI m)), some (pI (nI c)), some (pI (nI (bst (sgF A t q s m c) (0 - 1)))), some (pL (mst (sgF A t q s m c) 0)), none, some (pI (nI 0)), none, none]) rfl ?_
      refine J_forI (α := Unit) (L := fun i1 aa1 => [some (pR (some 0)), some (pI (nI t)), some (pI (nI q)), some (pI (nI s)), some (pI (nI m)), some (pI (nI c)), some (pI (nI (bst (sgF A t q s m c) (i1 - 1)))), some (pL (mst (sgF A t q s m c) i1)), none, some (pI (nI i1)), none, none]) (fun i1 aa1 h1 => Fr 92 102 h h1) (e := aP A 0 0 0) (fun aa1 h1 hI1 => ?_) (fun i1 aa1 h1 hi1 hI1 ih1 => ?_) 0 (()) _ (by omega) (Fr.rf)
      · show J _ _ _ _ _ [some (pR (some 0)), some (pI (nI t)), some (pI (nI q)), some (pI (nI s)), some (pI (nI m)), some (pI (nI c)), some (pI (nI (bst (sgF A t q s m c) (aP A 0 0 0 - 1)))), some (pL (mst (sgF A t q s m c) (aP A 0 0 0))), none, some (pI (nI (aP A 0 0 0))), none, none] _ _ h1
        have hX := hX0.fr hW hI1 (by decide) (by decide)
        have hG := hI1.g hG0
        have hF := hI1
        refine J_iload dX9_when_39 rfl ?_
        refine J_aload_n dX9_when_41 rfl ?_
        refine J_getR (r := some p) dX9_when_42 fX9_20 s0 (fun _ => rfl) (hX.cu) ?_
        refine J_getI dX9_when_45 fX9_104 hX.po.s (fun _ => rfl) ?_
        refine J_cvI (hX.wk) ?_
        refine J_icmp_geN dX9_when_48 (by omega) (by omega) (fun c4 => ?_) (fun c4 => ?_)
        · refine J_iload dX9_when_115 rfl ?_
          exact J_retI dX9_when_117 rfl ⟨rfl, hX, hF.mo (by decide) (by decide)⟩
        · exact (show False by omega).elim
      · show J _ _ _ _ _ [some (pR (some 0)), some (pI (nI t)), some (pI (nI q)), some (pI (nI s)), some (pI (nI m)), some (pI (nI c)), some (pI (nI (bst (sgF A t q s m c) (i1 - 1)))), some (pL (mst (sgF A t q s m c) i1)), none, some (pI (nI i1)), none, none] _ _ h1
        have hX := hX0.fr hW hI1 (by decide) (by decide)
        have hG := hI1.g hG0
        have hF := hI1
        refine J_iload dX9_when_39 rfl ?_
        refine J_aload_n dX9_when_41 rfl ?_
        refine J_getR (r := some p) dX9_when_42 fX9_20 s0 (fun _ => rfl) (hX.cu) ?_
        refine J_getI dX9_when_45 fX9_104 hX.po.s (fun _ => rfl) ?_
        refine J_cvI (hX.wk) ?_
        refine J_icmp_geN dX9_when_48 (by omega) (by omega) (fun c5 => ?_) (fun c5 => ?_)
        · exact (show False by omega).elim
        · refine J_aload_n dX9_when_51 rfl ?_
          refine J_getR (r := some 92) dX9_when_52 fX9_37 s0 (fun _ => rfl) (g0_5 hG) ?_
          refine J_iload dX9_when_55 rfl ?_
          refine J_iload_n dX9_when_57 rfl ?_
          refine J_iload dX9_when_58 rfl ?_
          refine J_iload dX9_when_60 rfl ?_
          refine J_cVV (ci := 2) (c := 92) (as := [pI (nI i1), pI (nI s), pI (nI m), pI (nI c)]) (st := []) dX9_when_62 lX9_284 okX2_setSledge vX2_setSledge s92 (by decide) rfl rfl rfl (Nat.le_of_ble_eq_true rfl) ⟨Nat.le_of_ble_eq_true rfl, Nat.le_of_ble_eq_true rfl⟩ CR.f (c_X2_setSledge hG) (fun g6 eg6 => ?_)
          obtain ⟨⟨k12, k13, k14, k15⟩, f1⟩ := setSl eg6
          have hG := f1.g hG
          have hX := hX.fr hW f1 (by decide) (by decide)
          have hF := hF.tr (f1.mo (by decide) (by decide))
          refine J_aload_n dX9_when_65 rfl ?_
          refine J_getR (r := some 92) dX9_when_66 fX9_37 s0 (fun _ => rfl) (g0_5 hG) ?_
          refine J_aload_n dX9_when_69 rfl ?_
          refine J_getR (r := some p) dX9_when_70 fX9_20 s0 (fun _ => rfl) (hX.cu) ?_
          refine J_aload_n dX9_when_73 rfl ?_
          refine J_getR (r := some p) dX9_when_74 fX9_20 s0 (fun _ => rfl) (hX.cu) ?_
          refine J_getR (r := some (p + 7)) dX9_when_77 fX9_133 hX.po.s (fun _ => rfl) (hX.po.e10 hG) ?_
          refine J_iload_n dX9_when_80 rfl ?_
          refine J_aald4N (r := some (p + 9 + 7 * t)) dX9_when_81 hX.po.s7 (by decide) (by omega) (hX.po.eth hG (by omega)) ?_
          refine J_iload_n dX9_when_82 rfl ?_
          refine J_cVL (ci := 2) (c := 92) (as := [pR (some p), pR (some (p + 9 + 7 * t)), pI (nI q)]) (st := []) dX9_when_83 lX9_288 okX2_sledgeScore vX2_sledgeScore s92 (by decide) rfl rfl rfl (Nat.le_of_ble_eq_true rfl) ⟨Nat.le_of_ble_eq_true rfl, Nat.le_of_ble_eq_true rfl⟩ CR.f (c_X2_sledgeScore hG hX.po (hX.th hW ht) (hX.ta hW ht) hX.wn (by omega) hX.wk (by omega) (x := aX A) (fun w hw => hX.x hw) (u := aV A t) (fun w hw => hX.wa hW ht (by omega)) k12 k13 k14 k15 (by omega) (by omega) (by omega) (by omega) (by omega) (by omega)) (fun vg7 g7 eg7 => ?_)
          obtain ⟨rfl, f2⟩ := eg7
          have hG := f2.g hG
          have hX := hX.fr hW f2 (by decide) (by decide)
          have hF := hF.tr (f2.mo (by decide) (by decide))
          refine J_lstore (L' := [some (pR (some 0)), some (pI (nI t)), some (pI (nI q)), some (pI (nI s)), some (pI (nI m)), some (pI (nI c)), some (pI (nI (bst (sgF A t q s m c) (i1 - 1)))), some (pL (mst (sgF A t q s m c) i1)), none, some (pI (nI i1)), some (pL (sgF A t q s m c i1)), none]) dX9_when_86 (by decide) rfl ?_
          refine J_iload dX9_when_88 rfl ?_
          refine J_if_eqN dX9_when_90 (by omega) (fun k0 => ?_) (fun k0 => ?_)
          · refine J_iload dX9_when_101 rfl ?_
            refine J_istore (L' := [some (pR (some 0)), some (pI (nI t)), some (pI (nI q)), some (pI (nI s)), some (pI (nI m)), some (pI (nI c)), some (pI (nI i1)), some (pL (mst (sgF A t q s m c) i1)), none, some (pI (nI i1)), some (pL (sgF A t q s m c i1)), none]) dX9_when_103 (by decide) rfl ?_
            refine J_lload dX9_when_105 rfl ?_
            refine J_lstore (L' := [some (pR (some 0)), some (pI (nI t)), some (pI (nI q)), some (pI (nI s)), some (pI (nI m)), some (pI (nI c)), some (pI (nI i1)), some (pL (sgF A t q s m c i1)), none, some (pI (nI i1)), some (pL (sgF A t q s m c i1)), none]) dX9_when_107 (by decide) rfl ?_
            refine J_iincN (n := 1) (L' := [some (pR (some 0)), some (pI (nI t)), some (pI (nI q)), some (pI (nI s)), some (pI (nI m)), some (pI (nI c)), some (pI (nI i1)), some (pL (sgF A t q s m c i1)), none, some (pI (nI (i1 + 1))), some (pL (sgF A t q s m c i1)), none]) dX9_when_109 rfl (by decide) rfl ?_
            refine J_goto dX9_when_112 ?_
            refine J_drop (L' := [some (pR (some 0)), some (pI (nI t)), some (pI (nI q)), some (pI (nI s)), some (pI (nI m)), some (pI (nI c)), some (pI (nI i1)), some (pL (sgF A t q s m c i1)), none, some (pI (nI (i1 + 1))), none, none]) 10 rfl ?_
            have K := ih1 () _ hF
            rw [(show bst (sgF A t q s m c) (i1 + 1 - 1) = i1 from bst_1.trans (bst_take (Or.inl k0))), mst_take (Or.inl k0)] at K
            exact K
          · refine J_lload dX9_when_93 rfl ?_
            refine J_lload dX9_when_95 rfl ?_
            refine J_lcmp dX9_when_97 ?_
            refine J_lif_le dX9_when_98 (fun k1 => ?_) (fun k1 => ?_)
            · refine J_iincN (n := 1) (L' := [some (pR (some 0)), some (pI (nI t)), some (pI (nI q)), some (pI (nI s)), some (pI (nI m)), some (pI (nI c)), some (pI (nI (bst (sgF A t q s m c) (i1 - 1)))), some (pL (mst (sgF A t q s m c) i1)), none, some (pI (nI (i1 + 1))), some (pL (sgF A t q s m c i1)), none]) dX9_when_109 rfl (by decide) rfl ?_
              refine J_goto dX9_when_112 ?_
              refine J_drop (L' := [some (pR (some 0)), some (pI (nI t)), some (pI (nI q)), some (pI (nI s)), some (pI (nI m)), some (pI (nI c)), some (pI (nI (bst (sgF A t q s m c) (i1 - 1)))), some (pL (mst (sgF A t q s m c) i1)), none, some (pI (nI (i1 + 1))), none, none]) 10 rfl ?_
              have K := ih1 () _ hF
              rw [(show bst (sgF A t q s m c) (i1 + 1 - 1) = bst (sgF A t q s m c) (i1 - 1) from bst_1.trans (bst_keep k0 (Int64.not_lt.mpr k1))), mst_keep k0 (Int64.not_lt.mpr k1)] at K
              exact K
            · refine J_iload dX9_when_101 rfl ?_
              refine J_istore (L' := [some (pR (some 0)), some (pI (nI t)), some (pI (nI q)), some (pI (nI s)), some (pI (nI m)), some (pI (nI c)), some (pI (nI i1)), some (pL (mst (sgF A t q s m c) i1)), none, some (pI (nI i1)), some (pL (sgF A t q s m c i1)), none]) dX9_when_103 (by decide) rfl ?_
              refine J_lload dX9_when_105 rfl ?_
              refine J_lstore (L' := [some (pR (some 0)), some (pI (nI t)), some (pI (nI q)), some (pI (nI s)), some (pI (nI m)), some (pI (nI c)), some (pI (nI i1)), some (pL (sgF A t q s m c i1)), none, some (pI (nI i1)), some (pL (sgF A t q s m c i1)), none]) dX9_when_107 (by decide) rfl ?_
              refine J_iincN (n := 1) (L' := [some (pR (some 0)), some (pI (nI t)), some (pI (nI q)), some (pI (nI s)), some (pI (nI m)), some (pI (nI c)), some (pI (nI i1)), some (pL (sgF A t q s m c i1)), none, some (pI (nI (i1 + 1))), some (pL (sgF A t q s m c i1)), none]) dX9_when_109 rfl (by decide) rfl ?_
              refine J_goto dX9_when_112 ?_
              refine J_drop (L' := [some (pR (some 0)), some (pI (nI t)), some (pI (nI q)), some (pI (nI s)), some (pI (nI m)), some (pI (nI c)), some (pI (nI i1)), some (pL (sgF A t q s m c i1)), none, some (pI (nI (i1 + 1))), none, none]) 10 rfl ?_
              have K := ih1 () _ hF
              rw [(show bst (sgF A t q s m c) (i1 + 1 - 1) = i1 from bst_1.trans (bst_take (Or.inr (Int64.not_le.mp k1)))), mst_take (Or.inr (Int64.not_le.mp k1))] at K
              exact K
    · exact (show False by omega).elim
  · exact absurd hok c2
theorem c_X9_when_no {h : PH} {p : Nat} {A : AS} {t q s m c : Int32} (hG : GR h.2.2) (hX : XI h p A) (hW : WF A) (hno : ¬ (okG (aP A) t q s m c ∧ 0 < aP A 0 2 0)) : CtI mX9_when h [pR (some 0), pI t, pI q, pI s, pI m, pI c] (fun v h' => v = (if okG (aP A) t q s m c then -4 else -2) ∧ XP h h' p A) := by
  have bN := hW.1
  have bk := hW.wk
  have bc := hW.cs
  have bw := hW.wn
  have bt := hW.tn
  have bf := hW.fn
  refine Ct.of (L := [some (pR (some 0)), some (pI t), some (pI q), some (pI s), some (pI m), some (pI c), none, none, none, none, none, none]) rfl rfl (Nat.le_of_ble_eq_true rfl) rfl ?_
  refine J_aload_n dX9_when_0 rfl ?_
  refine J_iload_n dX9_when_1 rfl ?_
  refine J_iload_n dX9_when_2 rfl ?_
  refine J_iload_n dX9_when_3 rfl ?_
  refine J_iload dX9_when_4 rfl ?_
  refine J_iload dX9_when_6 rfl ?_
  refine J_cVI (ci := 9) (c := 0) (as := [pI t, pI q, pI s, pI m, pI c]) (st := []) dX9_when_8 lX9_280 okX9_isSledge vX9_isSledge s0 (by decide) rfl rfl rfl (Nat.le_of_ble_eq_true rfl) ⟨Nat.le_of_ble_eq_true rfl, Nat.le_of_ble_eq_true rfl⟩ CR.f (c_X9_isSledge hG hX hW) (fun vq1 gq1 eq1 => ?_)
  obtain ⟨rfl, fq1⟩ := eq1
  rw [fq1]
  refine J_if_neB dX9_when_11 (fun d1 => ?_) (fun d1 => ?_)
  · refine J_aload_n dX9_when_17 rfl ?_
    refine J_getR (r := some p) dX9_when_18 fX9_20 s0 (fun _ => rfl) (hX.cu) ?_
    refine J_getI dX9_when_21 fX9_110 hX.po.s (fun _ => rfl) ?_
    refine J_cvI (hX.wn) ?_
    refine J_if_neN dX9_when_24 (by omega) (fun d2 => ?_) (fun d2 => ?_)
    · exact absurd ⟨d1, by omega⟩ hno
    · refine J_bipush (x := (-4)) dX9_when_27 (by decide) ?_
      exact J_retI dX9_when_29 rfl ⟨(if_pos d1).symm, hX, Fr.rf⟩
  · refine J_bipush (x := (-2)) dX9_when_14 (by decide) ?_
    exact J_retI dX9_when_16 rfl ⟨(if_neg d1).symm, hX, Fr.rf⟩
theorem c_X9_when {h : PH} {p : Nat} {A : AS} {t q s m c : Int32} (hG : GR h.2.2) (hX : XI h p A) (hW : WF A) : CtI mX9_when h [pR (some 0), pI t, pI q, pI s, pI m, pI c] (fun v h' => v = whenA A t q s m c ∧ XP h h' p A) := by
  by_cases hok : okG (aP A) t q s m c ∧ 0 < aP A 0 2 0
  · obtain ⟨⟨h1, h2, h3, h4, h5⟩, h7⟩ := id hok
    obtain ⟨t, ht, rfl⟩ := inR_of h1
    obtain ⟨q, hq, rfl⟩ := inR_of h2
    obtain ⟨s, hs, rfl⟩ := inR_of h3
    obtain ⟨m, hm, rfl⟩ := inR_of (n := 21) (t := m) ⟨by omega, by omega⟩
    obtain ⟨c, hc, rfl⟩ := inR_of h5
    have bt := hW.tn
    have bk := hW.wk
    rw [nI_toInt (by omega)] at h4
    have h4 : 1 ≤ m ∧ m ≤ 20 := by omega
    rw [whenA, if_pos hok.1, if_neg (by omega), cl, cl, cl, cl, cl, nI_clamp (by omega), nI_clamp (by omega), nI_clamp (by omega), nI_clamp (by omega), nI_clamp (by omega)]
    exact c_X9_when_in hG hX hW ht hq hs h4.1 h4.2 hc h7
  · have e : whenA A t q s m c = if okG (aP A) t q s m c then -4 else -2 := by
      unfold whenA
      by_cases z : okG (aP A) t q s m c
      · rw [if_pos z, if_pos z, if_pos (Nat.eq_zero_of_not_pos (fun y => hok ⟨z, y⟩))]
      · rw [if_neg z, if_neg z]
    rw [e]
    exact c_X9_when_no hG hX hW hok
theorem c_X10_when_in {h : PH} {A : AS} {t q s m c : Nat} (hG : GR h.2.2) (hM : MI h A) (hW : WF A) (ht : t < aP A 0 3 0) (hq : q < 41) (hs : s < 41) (m1 : 1 ≤ m) (m2 : m ≤ 20) (hc : c < 100) (hn : 0 < aP A 0 2 0) : CtI mX10_when h [pR (some 158), pI (nI t), pI (nI q), pI (nI s), pI (nI m), pI (nI c)] (fun v h' => v = nI (bst (sgF A t q s m c) (aP A 0 0 0 - 1)) ∧ MP h h' A) := by
  have bN := hW.1
  have bk := hW.wk
  have bc := hW.cs
  have bw := hW.wn
  have bt := hW.tn
  have bf := hW.fn
  have hoh : okH (nI q) (nI s) (nI m) (nI c) := ⟨inR_nI hq (by omega), inR_nI hs (by omega), by rw [nI_toInt (by omega)]; omega, inR_nI hc (by omega)⟩
  have hok : okG (aP A) (nI t) (nI q) (nI s) (nI m) (nI c) := ⟨inR_nI ht (by omega), hoh⟩
  have hM0 := hM
  have hG0 := hG
  refine Ct.of (L := [some (pR (some 158)), some (pI (nI t)), some (pI (nI q)), some (pI (nI s)), some (pI (nI m)), some (pI (nI c)), none, none, none, none, none, none]) rfl rfl (Nat.le_of_ble_eq_true rfl) rfl ?_
  refine J_aload_n dX10_when_0 rfl ?_
  refine J_iload_n dX10_when_1 rfl ?_
  refine J_cVI (ci := 10) (c := 158) (as := [pI (nI t)]) (st := []) dX10_when_2 lX10_243 okX10_isThing vX10_isThing s158 (by decide) rfl rfl rfl (Nat.le_of_ble_eq_true rfl) ⟨Nat.le_of_ble_eq_true rfl, Nat.le_of_ble_eq_true rfl⟩ CR.f (c_X10_isThing hG (hM.nm (by decide)) (by omega)) (fun vq1 gq1 eq1 => ?_)
  obtain ⟨rfl, fq1⟩ := eq1
  rw [fq1]
  refine J_cvI (bI_congr (inR_nI_iff (by omega))) ?_
  refine J_if_eqB dX10_when_5 (fun c2 => ?_) (fun c2 => ?_)
  · exact (show False by omega).elim
  · refine J_iload_n dX10_when_8 rfl ?_
    refine J_iload_n dX10_when_9 rfl ?_
    refine J_iload dX10_when_10 rfl ?_
    refine J_iload dX10_when_12 rfl ?_
    refine J_cSI (as := [pI (nI q), pI (nI s), pI (nI m), pI (nI c)]) (st := []) dX10_when_14 lX10_360 okX10_isSledge sX10_isSledge rfl rfl (Nat.le_of_ble_eq_true rfl) ⟨Nat.le_of_ble_eq_true rfl, Nat.le_of_ble_eq_true rfl⟩ CR.f (c_X10_isSledge) (fun vq3 gq3 eq3 => ?_)
    obtain ⟨rfl, fq3⟩ := eq3
    rw [fq3]
    refine J_if_neB dX10_when_17 (fun c4 => ?_) (fun c4 => ?_)
    · refine J_aload_n dX10_when_23 rfl ?_
      refine J_cVI (ci := 10) (c := 158) (as := []) (st := []) dX10_when_24 lX10_234 okX10_hasWinters vX10_hasWinters s158 (by decide) rfl rfl rfl (Nat.le_of_ble_eq_true rfl) ⟨Nat.le_of_ble_eq_true rfl, Nat.le_of_ble_eq_true rfl⟩ CR.f (c_X10_hasWinters hG (hM.nm (by decide)) (by omega)) (fun vq5 gq5 eq5 => ?_)
      obtain ⟨rfl, fq5⟩ := eq5
      rw [fq5]
      refine J_if_neB dX10_when_27 (fun c6 => ?_) (fun c6 => ?_)
      · refine J_iconst (x := -1) dX10_when_33 (by decide) ?_
        refine J_istore (L' := [some (pR (some 158)), some (pI (nI t)), some (pI (nI q)), some (pI (nI s)), some (pI (nI m)), some (pI (nI c)), some (pI ((-1))), none, none, none, none, none]) dX10_when_34 (by decide) rfl ?_
        refine J_lconst (x := 0) dX10_when_36 rfl ?_
        refine J_lstore (L' := [some (pR (some 158)), some (pI (nI t)), some (pI (nI q)), some (pI (nI s)), some (pI (nI m)), some (pI (nI c)), some (pI ((-1))), some (pL 0), none, none, none, none]) dX10_when_37 (by decide) rfl ?_
        refine J_iconstN (n := 0) dX10_when_39 ?_
        refine J_istore (L' := [some (pR (some 158)), some (pI (nI t)), some (pI (nI q)), some (pI (nI s)), some (pI (nI m)), some (pI (nI c)), some (pI ((-1))), some (pL 0), none, some (pI (nI 0)), none, none]) dX10_when_40 (by decide) rfl ?_
        refine J_L (L' := [some (pR (some 158)), some (pI (nI t)), some (pI (nI q)), some (pI (nI s)), some (pI (nI m)), some (pI (nI c)), some (pI (bsN (sgF A t q s m c) 0)), some (pL (mst (sgF A t q s m c) 0)), none, some (pI (nI 0)), none, none]) rfl ?_
        refine J_forI (α := Unit) (L := fun i1 aa1 => [some (pR (some 158)), some (pI (nI t)), some (pI (nI q)), some (pI (nI s)), some (pI (nI m)), some (pI (nI c)), some (pI (bsN (sgF A t q s m c) i1)), some (pL (mst (sgF A t q s m c) i1)), none, some (pI (nI i1)), none, none]) (fun i1 aa1 h1 => MFr h h1) (e := aP A 0 0 0) (fun aa1 h1 hI1 => ?_) (fun i1 aa1 h1 hi1 hI1 ih1 => ?_) 0 (()) _ (by omega) (MFr.rf)
        · show J _ _ _ _ _ [some (pR (some 158)), some (pI (nI t)), some (pI (nI q)), some (pI (nI s)), some (pI (nI m)), some (pI (nI c)), some (pI (bsN (sgF A t q s m c) (aP A 0 0 0))), some (pL (mst (sgF A t q s m c) (aP A 0 0 0))), none, some (pI (nI (aP A 0 0 0))), none, none] _ _ h1
          have hM := hM0.mq hI1
          have hG := hI1.g hG0
          have hQ := hI1
          refine J_iload dX10_when_42 rfl ?_
          refine J_aload_n dX10_when_44 rfl ?_
          refine J_getR (r := some 160) dX10_when_45 fX10_17 s158 (fun _ => rfl) (g158_12 hG) ?_
          refine J_iconstN (n := 0) dX10_when_48 ?_
          refine J_ialdN dX10_when_49 s160 (by decide) (by omega) ?_
          refine J_cvI ((hM.nm (k := 0) (by decide))) ?_
          refine J_icmp_geN dX10_when_50 (by omega) (by omega) (fun c7 => ?_) (fun c7 => ?_)
          · refine J_iload dX10_when_99 rfl ?_
            exact J_retI dX10_when_101 rfl ⟨by unfold bsN; rw [if_neg (by omega)]; rfl, hM, hQ.fr⟩
          · exact (show False by omega).elim
        · show J _ _ _ _ _ [some (pR (some 158)), some (pI (nI t)), some (pI (nI q)), some (pI (nI s)), some (pI (nI m)), some (pI (nI c)), some (pI (bsN (sgF A t q s m c) i1)), some (pL (mst (sgF A t q s m c) i1)), none, some (pI (nI i1)), none, none] _ _ h1
          have hM := hM0.mq hI1
          have hG := hI1.g hG0
          have hQ := hI1
          refine J_iload dX10_when_42 rfl ?_
          refine J_aload_n dX10_when_44 rfl ?_
          refine J_getR (r := some 160) dX10_when_45 fX10_17 s158 (fun _ => rfl) (g158_12 hG) ?_
          refine J_iconstN (n := 0) dX10_when_48 ?_
          refine J_ialdN dX10_when_49 s160 (by decide) (by omega) ?_
          refine J_cvI ((hM.nm (k := 0) (by decide))) ?_
          refine J_icmp_geN dX10_when_50 (by omega) (by omega) (fun c8 => ?_) (fun c8 => ?_)
          · exact (show False by omega).elim
          · refine J_aload_n dX10_when_53 rfl ?_
            refine J_iload_n dX10_when_54 rfl ?_
            refine J_iload_n dX10_when_55 rfl ?_
            refine J_iload dX10_when_56 rfl ?_
            refine J_iload_n dX10_when_58 rfl ?_
            refine J_iload dX10_when_59 rfl ?_
            refine J_iload dX10_when_61 rfl ?_
            refine J_cVL (ci := 10) (c := 158) (as := [pI (nI t), pI (nI q), pI (nI i1), pI (nI s), pI (nI m), pI (nI c)]) (st := []) dX10_when_63 lX10_364 okX10_sledgeBy vX10_sledgeBy s158 (by decide) rfl rfl rfl (Nat.le_of_ble_eq_true rfl) ⟨Nat.le_of_ble_eq_true rfl, Nat.le_of_ble_eq_true rfl⟩ CR.f (c_X10_sledgeBy hG hM hW ht hq hs m1 m2 hc hn (by omega)) (fun vg9 g9 eg9 => ?_)
            obtain ⟨rfl, f1⟩ := eg9
            have hG := f1.g hG
            have hM := hM.mq f1
            have hQ := hQ.tr f1
            refine J_lstore (L' := [some (pR (some 158)), some (pI (nI t)), some (pI (nI q)), some (pI (nI s)), some (pI (nI m)), some (pI (nI c)), some (pI (bsN (sgF A t q s m c) i1)), some (pL (mst (sgF A t q s m c) i1)), none, some (pI (nI i1)), some (pL (sgF A t q s m c i1)), none]) dX10_when_66 (by decide) rfl ?_
            refine J_iload dX10_when_68 rfl ?_
            refine J_iconst (x := -1) dX10_when_70 (by decide) ?_
            refine J_icmp_eq dX10_when_71 (fun k0 => ?_) (fun k0 => ?_)
            · refine J_iload dX10_when_85 rfl ?_
              refine J_istore (L' := [some (pR (some 158)), some (pI (nI t)), some (pI (nI q)), some (pI (nI s)), some (pI (nI m)), some (pI (nI c)), some (pI (nI i1)), some (pL (mst (sgF A t q s m c) i1)), none, some (pI (nI i1)), some (pL (sgF A t q s m c i1)), none]) dX10_when_87 (by decide) rfl ?_
              refine J_lload dX10_when_89 rfl ?_
              refine J_lstore (L' := [some (pR (some 158)), some (pI (nI t)), some (pI (nI q)), some (pI (nI s)), some (pI (nI m)), some (pI (nI c)), some (pI (nI i1)), some (pL (sgF A t q s m c i1)), none, some (pI (nI i1)), some (pL (sgF A t q s m c i1)), none]) dX10_when_91 (by decide) rfl ?_
              refine J_iincN (n := 1) (L' := [some (pR (some 158)), some (pI (nI t)), some (pI (nI q)), some (pI (nI s)), some (pI (nI m)), some (pI (nI c)), some (pI (nI i1)), some (pL (sgF A t q s m c i1)), none, some (pI (nI (i1 + 1))), some (pL (sgF A t q s m c i1)), none]) dX10_when_93 rfl (by decide) rfl ?_
              refine J_goto dX10_when_96 ?_
              refine J_drop (L' := [some (pR (some 158)), some (pI (nI t)), some (pI (nI q)), some (pI (nI s)), some (pI (nI m)), some (pI (nI c)), some (pI (nI i1)), some (pL (sgF A t q s m c i1)), none, some (pI (nI (i1 + 1))), none, none]) 10 rfl ?_
              have K := ih1 () _ hQ
              rw [bsN_take (Or.inl ((bsN_m1 (by omega)).mp k0)), mst_take (Or.inl ((bsN_m1 (by omega)).mp k0))] at K
              exact K
            · refine J_lload dX10_when_74 rfl ?_
              refine J_lload dX10_when_76 rfl ?_
              refine J_lcmp dX10_when_78 ?_
              refine J_lif_gt dX10_when_79 (fun k1 => ?_) (fun k1 => ?_)
              · refine J_iload dX10_when_85 rfl ?_
                refine J_istore (L' := [some (pR (some 158)), some (pI (nI t)), some (pI (nI q)), some (pI (nI s)), some (pI (nI m)), some (pI (nI c)), some (pI (nI i1)), some (pL (mst (sgF A t q s m c) i1)), none, some (pI (nI i1)), some (pL (sgF A t q s m c i1)), none]) dX10_when_87 (by decide) rfl ?_
                refine J_lload dX10_when_89 rfl ?_
                refine J_lstore (L' := [some (pR (some 158)), some (pI (nI t)), some (pI (nI q)), some (pI (nI s)), some (pI (nI m)), some (pI (nI c)), some (pI (nI i1)), some (pL (sgF A t q s m c i1)), none, some (pI (nI i1)), some (pL (sgF A t q s m c i1)), none]) dX10_when_91 (by decide) rfl ?_
                refine J_iincN (n := 1) (L' := [some (pR (some 158)), some (pI (nI t)), some (pI (nI q)), some (pI (nI s)), some (pI (nI m)), some (pI (nI c)), some (pI (nI i1)), some (pL (sgF A t q s m c i1)), none, some (pI (nI (i1 + 1))), some (pL (sgF A t q s m c i1)), none]) dX10_when_93 rfl (by decide) rfl ?_
                refine J_goto dX10_when_96 ?_
                refine J_drop (L' := [some (pR (some 158)), some (pI (nI t)), some (pI (nI q)), some (pI (nI s)), some (pI (nI m)), some (pI (nI c)), some (pI (nI i1)), some (pL (sgF A t q s m c i1)), none, some (pI (nI (i1 + 1))), none, none]) 10 rfl ?_
                have K := ih1 () _ hQ
                rw [bsN_take (Or.inr k1), mst_take (Or.inr k1)] at K
                exact K
              · refine J_goto dX10_when_82 ?_
                refine J_iincN (n := 1) (L' := [some (pR (some 158)), some (pI (nI t)), some (pI (nI q)), some (pI (nI s)), some (pI (nI m)), some (pI (nI c)), some (pI (bsN (sgF A t q s m c) i1)), some (pL (mst (sgF A t q s m c) i1)), none, some (pI (nI (i1 + 1))), some (pL (sgF A t q s m c i1)), none]) dX10_when_93 rfl (by decide) rfl ?_
                refine J_goto dX10_when_96 ?_
                refine J_drop (L' := [some (pR (some 158)), some (pI (nI t)), some (pI (nI q)), some (pI (nI s)), some (pI (nI m)), some (pI (nI c)), some (pI (bsN (sgF A t q s m c) i1)), some (pL (mst (sgF A t q s m c) i1)), none, some (pI (nI (i1 + 1))), none, none]) 10 rfl ?_
                have K := ih1 () _ hQ
                rw [bsN_keep (fun z => k0 ((bsN_m1 (by omega)).mpr z)) k1, mst_keep (fun z => k0 ((bsN_m1 (by omega)).mpr z)) k1] at K
                exact K
      · exact (show False by omega).elim
    · exact absurd hoh c4
theorem c_X10_when_no {h : PH} {A : AS} {t q s m c : Int32} (hG : GR h.2.2) (hM : MI h A) (hW : WF A) (hno : ¬ (okG (aP A) t q s m c ∧ 0 < aP A 0 2 0)) : CtI mX10_when h [pR (some 158), pI t, pI q, pI s, pI m, pI c] (fun v h' => v = (if okG (aP A) t q s m c then -4 else -2) ∧ MP h h' A) := by
  have bN := hW.1
  have bk := hW.wk
  have bc := hW.cs
  have bw := hW.wn
  have bt := hW.tn
  have bf := hW.fn
  refine Ct.of (L := [some (pR (some 158)), some (pI t), some (pI q), some (pI s), some (pI m), some (pI c), none, none, none, none, none, none]) rfl rfl (Nat.le_of_ble_eq_true rfl) rfl ?_
  refine J_aload_n dX10_when_0 rfl ?_
  refine J_iload_n dX10_when_1 rfl ?_
  refine J_cVI (ci := 10) (c := 158) (as := [pI t]) (st := []) dX10_when_2 lX10_243 okX10_isThing vX10_isThing s158 (by decide) rfl rfl rfl (Nat.le_of_ble_eq_true rfl) ⟨Nat.le_of_ble_eq_true rfl, Nat.le_of_ble_eq_true rfl⟩ CR.f (c_X10_isThing hG (hM.nm (by decide)) (by omega)) (fun vq1 gq1 eq1 => ?_)
  obtain ⟨rfl, fq1⟩ := eq1
  rw [fq1]
  refine J_if_eqB dX10_when_5 (fun d1 => ?_) (fun d1 => ?_)
  · refine J_bipush (x := (-2)) dX10_when_20 (by decide) ?_
    exact J_retI dX10_when_22 rfl ⟨(if_neg (fun q => d1 q.1)).symm, hM, Fr.rf⟩
  · refine J_iload_n dX10_when_8 rfl ?_
    refine J_iload_n dX10_when_9 rfl ?_
    refine J_iload dX10_when_10 rfl ?_
    refine J_iload dX10_when_12 rfl ?_
    refine J_cSI (as := [pI q, pI s, pI m, pI c]) (st := []) dX10_when_14 lX10_360 okX10_isSledge sX10_isSledge rfl rfl (Nat.le_of_ble_eq_true rfl) ⟨Nat.le_of_ble_eq_true rfl, Nat.le_of_ble_eq_true rfl⟩ CR.f (c_X10_isSledge) (fun vq3 gq3 eq3 => ?_)
    obtain ⟨rfl, fq3⟩ := eq3
    rw [fq3]
    refine J_if_neB dX10_when_17 (fun d2 => ?_) (fun d2 => ?_)
    · refine J_aload_n dX10_when_23 rfl ?_
      refine J_cVI (ci := 10) (c := 158) (as := []) (st := []) dX10_when_24 lX10_234 okX10_hasWinters vX10_hasWinters s158 (by decide) rfl rfl rfl (Nat.le_of_ble_eq_true rfl) ⟨Nat.le_of_ble_eq_true rfl, Nat.le_of_ble_eq_true rfl⟩ CR.f (c_X10_hasWinters hG (hM.nm (by decide)) (by omega)) (fun vq5 gq5 eq5 => ?_)
      obtain ⟨rfl, fq5⟩ := eq5
      rw [fq5]
      refine J_if_neB dX10_when_27 (fun d3 => ?_) (fun d3 => ?_)
      · exact absurd ⟨⟨d1, d2⟩, d3⟩ hno
      · refine J_bipush (x := (-4)) dX10_when_30 (by decide) ?_
        exact J_retI dX10_when_32 rfl ⟨(if_pos ⟨d1, d2⟩).symm, hM, Fr.rf⟩
    · refine J_bipush (x := (-2)) dX10_when_20 (by decide) ?_
      exact J_retI dX10_when_22 rfl ⟨(if_neg (fun q => d2 q.2)).symm, hM, Fr.rf⟩
theorem c_X10_when {h : PH} {A : AS} {t q s m c : Int32} (hG : GR h.2.2) (hM : MI h A) (hW : WF A) : CtI mX10_when h [pR (some 158), pI t, pI q, pI s, pI m, pI c] (fun v h' => v = whenA A t q s m c ∧ MP h h' A) := by
  by_cases hok : okG (aP A) t q s m c ∧ 0 < aP A 0 2 0
  · obtain ⟨⟨h1, h2, h3, h4, h5⟩, h7⟩ := id hok
    obtain ⟨t, ht, rfl⟩ := inR_of h1
    obtain ⟨q, hq, rfl⟩ := inR_of h2
    obtain ⟨s, hs, rfl⟩ := inR_of h3
    obtain ⟨m, hm, rfl⟩ := inR_of (n := 21) (t := m) ⟨by omega, by omega⟩
    obtain ⟨c, hc, rfl⟩ := inR_of h5
    have bt := hW.tn
    have bk := hW.wk
    rw [nI_toInt (by omega)] at h4
    have h4 : 1 ≤ m ∧ m ≤ 20 := by omega
    rw [whenA, if_pos hok.1, if_neg (by omega), cl, cl, cl, cl, cl, nI_clamp (by omega), nI_clamp (by omega), nI_clamp (by omega), nI_clamp (by omega), nI_clamp (by omega)]
    exact c_X10_when_in hG hM hW ht hq hs h4.1 h4.2 hc h7
  · have e : whenA A t q s m c = if okG (aP A) t q s m c then -4 else -2 := by
      unfold whenA
      by_cases z : okG (aP A) t q s m c
      · rw [if_pos z, if_pos z, if_pos (Nat.eq_zero_of_not_pos (fun y => hok ⟨z, y⟩))]
      · rw [if_neg z, if_neg z]
    rw [e]
    exact c_X10_when_no hG hM hW hok
