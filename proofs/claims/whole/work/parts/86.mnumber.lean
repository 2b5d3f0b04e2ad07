/-! ===== numbers of the model ===== -/
theorem stM_b {K : Nat} : stM K ≤ 4 := by
  unfold stM
  (repeat' split) <;> omega
theorem stM_i : ∀ K, K < 5 → (stM K = 2 ↔ K = 3) ∧ (stM K = 1 ↔ K = 2) ∧ (stM K = 3 ↔ K = 4) ∧ (stM K = 4 ↔ K = 0) := by decide
/-- a number is taken: got, and the next token -/
def Mg (h h' : PH) (V : Nat) : Prop := (∀ c, c ≠ 158 → h'.1 c = h.1 c ∧ h'.2.1 c = h.2.1 c) ∧ h'.2.2 = h.2.2 ∧ (∀ k, (k < 3 ∨ 7 < k) → k ≠ 11 → h'.1 158 k = h.1 158 k) ∧ (∀ k, k ≠ 10 → h'.2.1 158 k = h.2.1 158 k) ∧ h'.1 158 11 = nI V
theorem Mg.of {h h' : PH} {V : Nat} (a : Ms (sI h 158 11 (nI V)) h') : Mg h h' V := ⟨fun c z => ⟨(a.1 c z).1.trans (rW_c z), (a.1 c z).2⟩, a.2.1, fun k z1 z2 => (a.2.2.1 k z1).trans (rI_k z2), a.2.2.2, (a.2.2.1 11 (by decide)).trans rI_s⟩
theorem Mg.g {h h' : PH} {V : Nat} (a : Mg h h' V) (hG : GR h.2.2) : GR h'.2.2 := by rw [a.2.1]; exact hG
theorem Mt.mg {h h' : PH} {T : Nat → Int32} {n V : Nat} (a : Mt h T n) (f : Mg h h' V) : Mt h' T n := ⟨fun i hi => (congrFun (f.1 159 (by decide)).1 i).trans (a.1 i hi), (f.2.2.1 2 (by decide) (by decide)).trans a.2.1, a.2.2⟩
theorem Mt.s1 {h : PH} {T : Nat → Int32} {n : Nat} {x : Int32} (a : Mt h T n) : Mt (sI h 158 11 x) T n := ⟨fun i hi => (rI_c (by decide)).trans (a.1 i hi), (rI_k (by decide)).trans a.2.1, a.2.2⟩
/-- the fault of a number that must lie between -/
def fRN (lo hi K V : Nat) : Nat := if K ≠ 3 then 1 else if V < lo ∨ hi < V then 2 else 0
/-- the fault of a last chance -/
def fRL (sum K V : Nat) : Nat := if K ≠ 3 then 1 else if 10 < V then 2 else if sum + V ≠ 10 then 7 else 0
/-- how a number's reading ends: a fault f, or the number and the next token -/
def RdN (h h' : PH) (T : Nat → Int32) (n s f : Nat) (v : Int32) : Prop := v = bI (f = 0) ∧ (f ≠ 0 → h' = sI (sI h 158 8 (nI f)) 158 9 (nI s)) ∧ (f = 0 → tkK T n s = 3 ∧ Mg h h' (tkV T n s) ∧ Mk h' T n (rn cBl T n (tkE T n s)))
theorem c_X10_readNumber {h : PH} {T : Nat → Int32} {n s lo hi : Nat} (hG : GR h.2.2) (hB : Mt h T n) (hk : Mk h T n s) (hs : s ≤ n) (hlo : lo < 1000) (hhi : hi < 1000) : CtI mX10_readNumber h [pR (some 158), pI (nI lo), pI (nI hi)] (fun v h' => RdN h h' T n s (fRN lo hi (tkK T n s) (tkV T n s)) v) := by
  have hkb := tkK_b (T := T) (n := n) (s := s)
  have hst := stM_b (K := tkK T n s)
  have hsi := stM_i _ hkb
  have hle := tkE_le (T := T) hs
  refine Ct.of (L := [some (pR (some 158)), some (pI (nI lo)), some (pI (nI hi))]) rfl rfl (Nat.le_of_ble_eq_true rfl) rfl ?_
  refine J_aload_n dX10_readNumber_0 rfl ?_
  refine J_getI dX10_readNumber_1 fX10_141 s158 (fun _ => rfl) ?_
  refine J_cvI (hk.1) ?_
  refine J_iconstN (n := 2) dX10_readNumber_4 ?_
  refine J_icmp_eqN dX10_readNumber_5 (by omega) (by omega) (fun d1 => ?_) (fun d1 => ?_)
  · have q3 := hsi.1.mp d1
    have hV := (tk_dig q3).2.2
    refine J_aload_n dX10_readNumber_14 rfl ?_
    refine J_getI dX10_readNumber_15 fX10_163 s158 (fun _ => rfl) ?_
    refine J_cvI ((hk.2.2.2.2.2 q3)) ?_
    refine J_iload_n dX10_readNumber_18 rfl ?_
    refine J_iload_n dX10_readNumber_19 rfl ?_
    refine J_cSI (as := [pI (nI (tkV T n s)), pI (nI lo), pI (nI hi)]) (st := []) dX10_readNumber_20 lX10_172 okX10_in sX10_in rfl rfl (Nat.le_of_ble_eq_true rfl) ⟨Nat.le_of_ble_eq_true rfl, Nat.le_of_ble_eq_true rfl⟩ CR.f (c_X10_in) (fun vq2 gq2 eq2 => ?_)
    obtain ⟨rfl, fq2⟩ := eq2
    rw [fq2]
    refine J_cvI (bI_congr (inN (by omega) (by omega) (by omega))) ?_
    refine J_if_neB dX10_readNumber_23 (fun d2 => ?_) (fun d2 => ?_)
    · refine J_aload_n dX10_readNumber_32 rfl ?_
      refine J_aload_n dX10_readNumber_33 rfl ?_
      refine J_getI dX10_readNumber_34 fX10_163 s158 (fun _ => rfl) ?_
      refine J_cvI ((hk.2.2.2.2.2 q3)) ?_
      refine J_putI dX10_readNumber_37 fX10_176 s158 rfl (vp_nar_int _) rfl (fun _ _ => rfl) ?_
      refine J_aload_n dX10_readNumber_40 rfl ?_
      refine J_cVV (ci := 10) (c := 158) (as := []) (st := []) dX10_readNumber_41 lX10_179 okX10_scan vX10_scan s158 (by decide) rfl rfl rfl (Nat.le_of_ble_eq_true rfl) ⟨Nat.le_of_ble_eq_true rfl, Nat.le_of_ble_eq_true rfl⟩ CR.f (c_X10_scan (h := sI h 158 11 (nI (tkV T n s))) (p := tkE T n s) hG hB.s1 ((rI_k (by decide)).trans hk.2.2.2.1) hle) (fun g1 e1 => ?_)
      refine J_iconstN (n := 1) dX10_readNumber_44 ?_
      exact J_retZ dX10_readNumber_45 rfl rfl ⟨bI_t (by unfold fRN; rw [if_neg (fun y => y q3), if_neg (by omega)]), fun z => absurd (by unfold fRN; rw [if_neg (fun y => y q3), if_neg (by omega)]) z, fun _ => ⟨q3, Mg.of e1.1, e1.2⟩⟩
    · refine J_aload_n dX10_readNumber_26 rfl ?_
      refine J_iconstN (n := 2) dX10_readNumber_27 ?_
      refine J_cVI (ci := 10) (c := 158) (as := [pI (nI 2)]) (st := []) dX10_readNumber_28 lX10_169 okX10_fails vX10_fails s158 (by decide) rfl rfl rfl (Nat.le_of_ble_eq_true rfl) ⟨Nat.le_of_ble_eq_true rfl, Nat.le_of_ble_eq_true rfl⟩ CR.f (c_X10_fails (k := 2) hk.2.2.1) (fun v0 g0 e0 => ?_)
      rw [e0.1, e0.2]
      exact J_retZ dX10_readNumber_31 rfl rfl (by have z : fRN lo hi (tkK T n s) (tkV T n s) = 2 := (by unfold fRN; rw [if_neg (fun y => y q3), if_pos (by omega)]); rw [z]; exact ⟨bI_f (by decide), fun _ => rfl, fun y => absurd y (by decide)⟩)
  · refine J_aload_n dX10_readNumber_8 rfl ?_
    refine J_iconstN (n := 1) dX10_readNumber_9 ?_
    refine J_cVI (ci := 10) (c := 158) (as := [pI (nI 1)]) (st := []) dX10_readNumber_10 lX10_169 okX10_fails vX10_fails s158 (by decide) rfl rfl rfl (Nat.le_of_ble_eq_true rfl) ⟨Nat.le_of_ble_eq_true rfl, Nat.le_of_ble_eq_true rfl⟩ CR.f (c_X10_fails (k := 1) hk.2.2.1) (fun v0 g0 e0 => ?_)
    rw [e0.1, e0.2]
    exact J_retZ dX10_readNumber_13 rfl rfl (by have z : fRN lo hi (tkK T n s) (tkV T n s) = 1 := (by unfold fRN; rw [if_pos (fun y => d1 (hsi.1.mpr y))]); rw [z]; exact ⟨bI_f (by decide), fun _ => rfl, fun y => absurd y (by decide)⟩)
theorem c_X10_readLast {h : PH} {T : Nat → Int32} {n s m : Nat} (hG : GR h.2.2) (hB : Mt h T n) (hk : Mk h T n s) (hs : s ≤ n) (hm : m < 1000) : CtI mX10_readLast h [pR (some 158), pI (nI m)] (fun v h' => RdN h h' T n s (fRL m (tkK T n s) (tkV T n s)) v) := by
  have hkb := tkK_b (T := T) (n := n) (s := s)
  have hst := stM_b (K := tkK T n s)
  have hsi := stM_i _ hkb
  have hle := tkE_le (T := T) hs
  refine Ct.of (L := [some (pR (some 158)), some (pI (nI m))]) rfl rfl (Nat.le_of_ble_eq_true rfl) rfl ?_
  refine J_aload_n dX10_readLast_0 rfl ?_
  refine J_getI dX10_readLast_1 fX10_141 s158 (fun _ => rfl) ?_
  refine J_cvI (hk.1) ?_
  refine J_iconstN (n := 2) dX10_readLast_4 ?_
  refine J_icmp_eqN dX10_readLast_5 (by omega) (by omega) (fun d1 => ?_) (fun d1 => ?_)
  · have q3 := hsi.1.mp d1
    have hV := (tk_dig q3).2.2
    refine J_aload_n dX10_readLast_14 rfl ?_
    refine J_getI dX10_readLast_15 fX10_163 s158 (fun _ => rfl) ?_
    refine J_cvI ((hk.2.2.2.2.2 q3)) ?_
    refine J_iconstN (n := 0) dX10_readLast_18 ?_
    refine J_bipush (x := nI 10) dX10_readLast_19 (by decide) ?_
    refine J_cSI (as := [pI (nI (tkV T n s)), pI (nI 0), pI (nI 10)]) (st := []) dX10_readLast_21 lX10_172 okX10_in sX10_in rfl rfl (Nat.le_of_ble_eq_true rfl) ⟨Nat.le_of_ble_eq_true rfl, Nat.le_of_ble_eq_true rfl⟩ CR.f (c_X10_in) (fun vq2 gq2 eq2 => ?_)
    obtain ⟨rfl, fq2⟩ := eq2
    rw [fq2]
    refine J_cvI (bI_congr (inN (by omega) (by omega) (by omega))) ?_
    refine J_if_neB dX10_readLast_24 (fun d2 => ?_) (fun d2 => ?_)
    · refine J_iload_n dX10_readLast_33 rfl ?_
      refine J_aload_n dX10_readLast_34 rfl ?_
      refine J_getI dX10_readLast_35 fX10_163 s158 (fun _ => rfl) ?_
      refine J_cvI ((hk.2.2.2.2.2 q3)) ?_
      refine J_iaddN dX10_readLast_38 ?_
      refine J_bipush (x := nI 10) dX10_readLast_39 (by decide) ?_
      refine J_icmp_eqN dX10_readLast_41 (by omega) (by omega) (fun d3 => ?_) (fun d3 => ?_)
      · refine J_aload_n dX10_readLast_51 rfl ?_
        refine J_aload_n dX10_readLast_52 rfl ?_
        refine J_getI dX10_readLast_53 fX10_163 s158 (fun _ => rfl) ?_
        refine J_cvI ((hk.2.2.2.2.2 q3)) ?_
        refine J_putI dX10_readLast_56 fX10_176 s158 rfl (vp_nar_int _) rfl (fun _ _ => rfl) ?_
        refine J_aload_n dX10_readLast_59 rfl ?_
        refine J_cVV (ci := 10) (c := 158) (as := []) (st := []) dX10_readLast_60 lX10_179 okX10_scan vX10_scan s158 (by decide) rfl rfl rfl (Nat.le_of_ble_eq_true rfl) ⟨Nat.le_of_ble_eq_true rfl, Nat.le_of_ble_eq_true rfl⟩ CR.f (c_X10_scan (h := sI h 158 11 (nI (tkV T n s))) (p := tkE T n s) hG hB.s1 ((rI_k (by decide)).trans hk.2.2.2.1) hle) (fun g1 e1 => ?_)
        refine J_iconstN (n := 1) dX10_readLast_63 ?_
        exact J_retZ dX10_readLast_64 rfl rfl ⟨bI_t (by unfold fRL; rw [if_neg (fun y => y q3), if_neg (by omega), if_neg (by omega)]), fun z => absurd (by unfold fRL; rw [if_neg (fun y => y q3), if_neg (by omega), if_neg (by omega)]) z, fun _ => ⟨q3, Mg.of e1.1, e1.2⟩⟩
      · refine J_aload_n dX10_readLast_44 rfl ?_
        refine J_bipush (x := nI 7) dX10_readLast_45 (by decide) ?_
        refine J_cVI (ci := 10) (c := 158) (as := [pI (nI 7)]) (st := []) dX10_readLast_47 lX10_169 okX10_fails vX10_fails s158 (by decide) rfl rfl rfl (Nat.le_of_ble_eq_true rfl) ⟨Nat.le_of_ble_eq_true rfl, Nat.le_of_ble_eq_true rfl⟩ CR.f (c_X10_fails (k := 7) hk.2.2.1) (fun v0 g0 e0 => ?_)
        rw [e0.1, e0.2]
        exact J_retZ dX10_readLast_50 rfl rfl (by have z : fRL m (tkK T n s) (tkV T n s) = 7 := (by unfold fRL; rw [if_neg (fun y => y q3), if_neg (by omega), if_pos (by omega)]); rw [z]; exact ⟨bI_f (by decide), fun _ => rfl, fun y => absurd y (by decide)⟩)
    · refine J_aload_n dX10_readLast_27 rfl ?_
      refine J_iconstN (n := 2) dX10_readLast_28 ?_
      refine J_cVI (ci := 10) (c := 158) (as := [pI (nI 2)]) (st := []) dX10_readLast_29 lX10_169 okX10_fails vX10_fails s158 (by decide) rfl rfl rfl (Nat.le_of_ble_eq_true rfl) ⟨Nat.le_of_ble_eq_true rfl, Nat.le_of_ble_eq_true rfl⟩ CR.f (c_X10_fails (k := 2) hk.2.2.1) (fun v0 g0 e0 => ?_)
      rw [e0.1, e0.2]
      exact J_retZ dX10_readLast_32 rfl rfl (by have z : fRL m (tkK T n s) (tkV T n s) = 2 := (by unfold fRL; rw [if_neg (fun y => y q3), if_pos (by omega)]); rw [z]; exact ⟨bI_f (by decide), fun _ => rfl, fun y => absurd y (by decide)⟩)
  · refine J_aload_n dX10_readLast_8 rfl ?_
    refine J_iconstN (n := 1) dX10_readLast_9 ?_
    refine J_cVI (ci := 10) (c := 158) (as := [pI (nI 1)]) (st := []) dX10_readLast_10 lX10_169 okX10_fails vX10_fails s158 (by decide) rfl rfl rfl (Nat.le_of_ble_eq_true rfl) ⟨Nat.le_of_ble_eq_true rfl, Nat.le_of_ble_eq_true rfl⟩ CR.f (c_X10_fails (k := 1) hk.2.2.1) (fun v0 g0 e0 => ?_)
    rw [e0.1, e0.2]
    exact J_retZ dX10_readLast_13 rfl rfl (by have z : fRL m (tkK T n s) (tkV T n s) = 1 := (by unfold fRL; rw [if_pos (fun y => d1 (hsi.1.mpr y))]); rw [z]; exact ⟨bI_f (by decide), fun _ => rfl, fun y => absurd y (by decide)⟩)
