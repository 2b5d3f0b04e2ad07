/-! ===== a clause: the model ===== -/
theorem Rr.nar {R : (Nat × Nat) × PS} {h0 h' : PH} {T : Nat → Int32} {n k i : Nat} {v : Int32} (a : Rr R h0 h' T n k i v) : narrow .boolean (.int v) = .int v := by
  rcases a with ⟨rfl, -⟩ | ⟨rfl, -⟩ <;> rfl
theorem told_0 : ∀ a, a < 2 → ∀ b, b < 2 → (nI (a + 2 * b) >>> (nI 0 &&& 31)) &&& nI 1 = nI a := by decide
theorem told_1 : ∀ a, a < 2 → ∀ b, b < 2 → (nI (a + 2 * b) >>> (nI 1 &&& 31)) &&& nI 1 = nI b := by decide
theorem tell_0 : ∀ a, a < 2 → ∀ b, b < 2 → nI (a + 2 * b) ||| (nI 1 <<< (nI 0 &&& 31)) = nI (1 + 2 * b) := by decide
theorem tell_1 : ∀ a, a < 2 → ∀ b, b < 2 → nI (a + 2 * b) ||| (nI 1 <<< (nI 1 &&& 31)) = nI (a + 2 * 1) := by decide
theorem clW_k {V k : Nat} (h : kw V = k + 1) : clW 2 V = nI k := by
  unfold clW
  rw [if_pos rfl, h]
  rfl
theorem clW_0 {V : Nat} (h : kw V = 0) : clW 2 V = -1 := by
  unfold clW
  rw [if_pos rfl, h]
  rfl
theorem c_readClause_2 {R : (Nat × Nat) × PS} {h0 h : PH} {T : Nat → Int32} {n p c : Nat} {num : Nat → Nat} {S : PS} (hG : GR h.2.2) (hA : At R h0 h T n (S, 0, c, num) p) (hD : Md h S) (hK : tkK T n (rn cBl T n p) = 2) (hkw : kw (tkV T n (rn cBl T n p)) = 3) : CtI mX10_readClause h [pR (some 158), pI (nI (S.1 0 5 0))] (fun v h' => Rr R h0 h' T n 2 (S.1 0 5 0) v) := by
  have k3 : h.1 158 3 = nI 1 := by have z := hA.1.1; rw [hK] at z; exact z
  have k4 : h.1 158 4 = nI 2 := by have z := hA.1.2.1; rw [hK, clW_k hkw] at z; exact z
  refine Ct.of (L := [some (pR (some 158)), some (pI (nI (S.1 0 5 0))), none]) rfl rfl (Nat.le_of_ble_eq_true rfl) rfl ?_
  refine J_aload_n dX10_readClause_0 rfl ?_
  refine J_getI dX10_readClause_1 fX10_141 s158 (fun _ => rfl) ?_
  refine J_cvI (k3) ?_
  refine J_iconstN (n := 1) dX10_readClause_4 ?_
  refine J_icmp_neN dX10_readClause_5 (by decide) (by decide) (fun c0 => absurd c0 (by decide)) (fun c0 => ?_)
  refine J_aload_n dX10_readClause_8 rfl ?_
  refine J_getI dX10_readClause_9 fX10_138 s158 (fun _ => rfl) ?_
  refine J_cvI (k4) ?_
  refine J_goto dX10_readClause_12 ?_
  refine J_istore_n (L' := [some (pR (some 158)), some (pI (nI (S.1 0 5 0))), some (pI (nI 2))]) dX10_readClause_16 (by decide) rfl ?_
  refine J_iload_n dX10_readClause_17 rfl ?_
  refine J_tabIn (tgt := 52) (2) dX10_readClause_18 (by decide) (by decide) (by decide) rfl rfl ?_
  refine J_aload_n dX10_readClause_52 rfl ?_
  refine J_cVI (ci := 10) (c := 158) (as := []) (st := []) dX10_readClause_53 lX10_209 okX10_readWinter vX10_readWinter s158 (by decide) rfl rfl rfl (Nat.le_of_ble_eq_true rfl) ⟨Nat.le_of_ble_eq_true rfl, Nat.le_of_ble_eq_true rfl⟩ CR.f (c_X10_readWinter hG hA hD hK hkw) (fun v1 g1 e1 => ?_)
  exact J_retZ dX10_readClause_56 rfl (Rr.nar e1) e1
theorem c_readClause_3 {R : (Nat × Nat) × PS} {h0 h : PH} {T : Nat → Int32} {n p c : Nat} {num : Nat → Nat} {S : PS} (hG : GR h.2.2) (hA : At R h0 h T n (S, 0, c, num) p) (hD : Md h S) (hK : tkK T n (rn cBl T n p) = 2) (hkw : kw (tkV T n (rn cBl T n p)) = 4) : CtI mX10_readClause h [pR (some 158), pI (nI (S.1 0 5 0))] (fun v h' => Rr R h0 h' T n 3 (S.1 0 5 0) v) := by
  have k3 : h.1 158 3 = nI 1 := by have z := hA.1.1; rw [hK] at z; exact z
  have k4 : h.1 158 4 = nI 3 := by have z := hA.1.2.1; rw [hK, clW_k hkw] at z; exact z
  refine Ct.of (L := [some (pR (some 158)), some (pI (nI (S.1 0 5 0))), none]) rfl rfl (Nat.le_of_ble_eq_true rfl) rfl ?_
  refine J_aload_n dX10_readClause_0 rfl ?_
  refine J_getI dX10_readClause_1 fX10_141 s158 (fun _ => rfl) ?_
  refine J_cvI (k3) ?_
  refine J_iconstN (n := 1) dX10_readClause_4 ?_
  refine J_icmp_neN dX10_readClause_5 (by decide) (by decide) (fun c0 => absurd c0 (by decide)) (fun c0 => ?_)
  refine J_aload_n dX10_readClause_8 rfl ?_
  refine J_getI dX10_readClause_9 fX10_138 s158 (fun _ => rfl) ?_
  refine J_cvI (k4) ?_
  refine J_goto dX10_readClause_12 ?_
  refine J_istore_n (L' := [some (pR (some 158)), some (pI (nI (S.1 0 5 0))), some (pI (nI 3))]) dX10_readClause_16 (by decide) rfl ?_
  refine J_iload_n dX10_readClause_17 rfl ?_
  refine J_tabIn (tgt := 57) (3) dX10_readClause_18 (by decide) (by decide) (by decide) rfl rfl ?_
  refine J_aload_n dX10_readClause_57 rfl ?_
  refine J_cVI (ci := 10) (c := 158) (as := []) (st := []) dX10_readClause_58 lX10_213 okX10_readThing vX10_readThing s158 (by decide) rfl rfl rfl (Nat.le_of_ble_eq_true rfl) ⟨Nat.le_of_ble_eq_true rfl, Nat.le_of_ble_eq_true rfl⟩ CR.f (c_X10_readThing hG hA hD hK hkw) (fun v1 g1 e1 => ?_)
  exact J_retZ dX10_readClause_61 rfl (Rr.nar e1) e1
theorem c_readClause_4 {R : (Nat × Nat) × PS} {h0 h : PH} {T : Nat → Int32} {n p c : Nat} {num : Nat → Nat} {S : PS} (hG : GR h.2.2) (hA : At R h0 h T n (S, 0, c, num) p) (hD : Md h S) (hK : tkK T n (rn cBl T n p) = 2) (hkw : kw (tkV T n (rn cBl T n p)) = 5) : CtI mX10_readClause h [pR (some 158), pI (nI (S.1 0 5 0))] (fun v h' => Rr R h0 h' T n 4 (S.1 0 5 0) v) := by
  have k3 : h.1 158 3 = nI 1 := by have z := hA.1.1; rw [hK] at z; exact z
  have k4 : h.1 158 4 = nI 4 := by have z := hA.1.2.1; rw [hK, clW_k hkw] at z; exact z
  refine Ct.of (L := [some (pR (some 158)), some (pI (nI (S.1 0 5 0))), none]) rfl rfl (Nat.le_of_ble_eq_true rfl) rfl ?_
  refine J_aload_n dX10_readClause_0 rfl ?_
  refine J_getI dX10_readClause_1 fX10_141 s158 (fun _ => rfl) ?_
  refine J_cvI (k3) ?_
  refine J_iconstN (n := 1) dX10_readClause_4 ?_
  refine J_icmp_neN dX10_readClause_5 (by decide) (by decide) (fun c0 => absurd c0 (by decide)) (fun c0 => ?_)
  refine J_aload_n dX10_readClause_8 rfl ?_
  refine J_getI dX10_readClause_9 fX10_138 s158 (fun _ => rfl) ?_
  refine J_cvI (k4) ?_
  refine J_goto dX10_readClause_12 ?_
  refine J_istore_n (L' := [some (pR (some 158)), some (pI (nI (S.1 0 5 0))), some (pI (nI 4))]) dX10_readClause_16 (by decide) rfl ?_
  refine J_iload_n dX10_readClause_17 rfl ?_
  refine J_tabIn (tgt := 62) (4) dX10_readClause_18 (by decide) (by decide) (by decide) rfl rfl ?_
  refine J_aload_n dX10_readClause_62 rfl ?_
  refine J_cVI (ci := 10) (c := 158) (as := []) (st := []) dX10_readClause_63 lX10_216 okX10_readWant vX10_readWant s158 (by decide) rfl rfl rfl (Nat.le_of_ble_eq_true rfl) ⟨Nat.le_of_ble_eq_true rfl, Nat.le_of_ble_eq_true rfl⟩ CR.f (c_X10_readWant hG hA hD hK hkw) (fun v1 g1 e1 => ?_)
  exact J_retZ dX10_readClause_66 rfl (Rr.nar e1) e1
theorem c_readClause_5 {R : (Nat × Nat) × PS} {h0 h : PH} {T : Nat → Int32} {n p c : Nat} {num : Nat → Nat} {S : PS} (hG : GR h.2.2) (hA : At R h0 h T n (S, 0, c, num) p) (hD : Md h S) (hK : tkK T n (rn cBl T n p) = 2) (hkw : kw (tkV T n (rn cBl T n p)) = 6) : CtI mX10_readClause h [pR (some 158), pI (nI (S.1 0 5 0))] (fun v h' => Rr R h0 h' T n 5 (S.1 0 5 0) v) := by
  have k3 : h.1 158 3 = nI 1 := by have z := hA.1.1; rw [hK] at z; exact z
  have k4 : h.1 158 4 = nI 5 := by have z := hA.1.2.1; rw [hK, clW_k hkw] at z; exact z
  refine Ct.of (L := [some (pR (some 158)), some (pI (nI (S.1 0 5 0))), none]) rfl rfl (Nat.le_of_ble_eq_true rfl) rfl ?_
  refine J_aload_n dX10_readClause_0 rfl ?_
  refine J_getI dX10_readClause_1 fX10_141 s158 (fun _ => rfl) ?_
  refine J_cvI (k3) ?_
  refine J_iconstN (n := 1) dX10_readClause_4 ?_
  refine J_icmp_neN dX10_readClause_5 (by decide) (by decide) (fun c0 => absurd c0 (by decide)) (fun c0 => ?_)
  refine J_aload_n dX10_readClause_8 rfl ?_
  refine J_getI dX10_readClause_9 fX10_138 s158 (fun _ => rfl) ?_
  refine J_cvI (k4) ?_
  refine J_goto dX10_readClause_12 ?_
  refine J_istore_n (L' := [some (pR (some 158)), some (pI (nI (S.1 0 5 0))), some (pI (nI 5))]) dX10_readClause_16 (by decide) rfl ?_
  refine J_iload_n dX10_readClause_17 rfl ?_
  refine J_tabIn (tgt := 67) (5) dX10_readClause_18 (by decide) (by decide) (by decide) rfl rfl ?_
  refine J_aload_n dX10_readClause_67 rfl ?_
  refine J_cVI (ci := 10) (c := 158) (as := []) (st := []) dX10_readClause_68 lX10_219 okX10_readInstead vX10_readInstead s158 (by decide) rfl rfl rfl (Nat.le_of_ble_eq_true rfl) ⟨Nat.le_of_ble_eq_true rfl, Nat.le_of_ble_eq_true rfl⟩ CR.f (c_X10_readInstead hG hA hD hK hkw) (fun v1 g1 e1 => ?_)
  exact J_retZ dX10_readClause_71 rfl (Rr.nar e1) e1
theorem c_readClause_6 {R : (Nat × Nat) × PS} {h0 h : PH} {T : Nat → Int32} {n p c : Nat} {num : Nat → Nat} {S : PS} (hG : GR h.2.2) (hA : At R h0 h T n (S, 0, c, num) p) (hD : Md h S) (hK : tkK T n (rn cBl T n p) = 2) (hkw : kw (tkV T n (rn cBl T n p)) = 7) : CtI mX10_readClause h [pR (some 158), pI (nI (S.1 0 5 0))] (fun v h' => Rr R h0 h' T n 6 (S.1 0 5 0) v) := by
  have k3 : h.1 158 3 = nI 1 := by have z := hA.1.1; rw [hK] at z; exact z
  have k4 : h.1 158 4 = nI 6 := by have z := hA.1.2.1; rw [hK, clW_k hkw] at z; exact z
  refine Ct.of (L := [some (pR (some 158)), some (pI (nI (S.1 0 5 0))), none]) rfl rfl (Nat.le_of_ble_eq_true rfl) rfl ?_
  refine J_aload_n dX10_readClause_0 rfl ?_
  refine J_getI dX10_readClause_1 fX10_141 s158 (fun _ => rfl) ?_
  refine J_cvI (k3) ?_
  refine J_iconstN (n := 1) dX10_readClause_4 ?_
  refine J_icmp_neN dX10_readClause_5 (by decide) (by decide) (fun c0 => absurd c0 (by decide)) (fun c0 => ?_)
  refine J_aload_n dX10_readClause_8 rfl ?_
  refine J_getI dX10_readClause_9 fX10_138 s158 (fun _ => rfl) ?_
  refine J_cvI (k4) ?_
  refine J_goto dX10_readClause_12 ?_
  refine J_istore_n (L' := [some (pR (some 158)), some (pI (nI (S.1 0 5 0))), some (pI (nI 6))]) dX10_readClause_16 (by decide) rfl ?_
  refine J_iload_n dX10_readClause_17 rfl ?_
  refine J_tabIn (tgt := 72) (6) dX10_readClause_18 (by decide) (by decide) (by decide) rfl rfl ?_
  refine J_aload_n dX10_readClause_72 rfl ?_
  refine J_cVI (ci := 10) (c := 158) (as := []) (st := []) dX10_readClause_73 lX10_222 okX10_readFamily vX10_readFamily s158 (by decide) rfl rfl rfl (Nat.le_of_ble_eq_true rfl) ⟨Nat.le_of_ble_eq_true rfl, Nat.le_of_ble_eq_true rfl⟩ CR.f (c_X10_readFamily hG hA hD hK hkw) (fun v1 g1 e1 => ?_)
  exact J_retZ dX10_readClause_76 rfl (Rr.nar e1) e1
theorem c_readClause_0 {R : (Nat × Nat) × PS} {h0 h : PH} {T : Nat → Int32} {n p c : Nat} {num : Nat → Nat} {S : PS} (hG : GR h.2.2) (hA : At R h0 h T n (S, 0, c, num) p) (hD : Md h S) (hK : tkK T n (rn cBl T n p) = 2) (hkw : kw (tkV T n (rn cBl T n p)) = 1) : CtI mX10_readClause h [pR (some 158), pI (nI (S.1 0 5 0))] (fun v h' => Rr R h0 h' T n 0 (S.1 0 5 0) v) := by
  have k3 : h.1 158 3 = nI 1 := by have z := hA.1.1; rw [hK] at z; exact z
  have k4 : h.1 158 4 = nI 0 := by have z := hA.1.2.1; rw [hK, clW_k hkw] at z; exact z
  have b0 : S.2.2.1 0 < 2 := hA.2.2.1.1.1.2.2.2.2.2.2.1
  have b1 : S.2.2.1 1 < 2 := hA.2.2.1.1.1.2.2.2.2.2.2.2.1
  have b5 : S.1 0 5 0 ≤ p := hA.2.2.1.1.1.1.2.2.2.2.2
  have bp : p ≤ 900 := Nat.le_trans hA.2.1.2 hA.2.1.1.2.2.1
  have hto := hD.2.2.2.2.2.2.2.2.2
  refine Ct.of (L := [some (pR (some 158)), some (pI (nI (S.1 0 5 0))), none]) rfl rfl (Nat.le_of_ble_eq_true rfl) rfl ?_
  refine J_aload_n dX10_readClause_0 rfl ?_
  refine J_getI dX10_readClause_1 fX10_141 s158 (fun _ => rfl) ?_
  refine J_cvI (k3) ?_
  refine J_iconstN (n := 1) dX10_readClause_4 ?_
  refine J_icmp_neN dX10_readClause_5 (by decide) (by decide) (fun c0 => absurd c0 (by decide)) (fun c0 => ?_)
  refine J_aload_n dX10_readClause_8 rfl ?_
  refine J_getI dX10_readClause_9 fX10_138 s158 (fun _ => rfl) ?_
  refine J_cvI (k4) ?_
  refine J_goto dX10_readClause_12 ?_
  refine J_istore_n (L' := [some (pR (some 158)), some (pI (nI (S.1 0 5 0))), some (pI (nI 0))]) dX10_readClause_16 (by decide) rfl ?_
  refine J_iload_n dX10_readClause_17 rfl ?_
  refine J_tabOut (tgt := 77) dX10_readClause_18 (by decide) rfl ?_
  refine J_iload_n dX10_readClause_77 rfl ?_
  refine J_if_eq dX10_readClause_78 (fun c0 => ?_) (fun c0 => absurd c0 (by decide))
  refine J_aload_n dX10_readClause_92 rfl ?_
  refine J_getI dX10_readClause_93 fX10_182 s158 (fun _ => rfl) ?_
  refine J_cvI (hto) ?_
  refine J_iload_n dX10_readClause_96 rfl ?_
  refine J_ishr dX10_readClause_97 ?_
  refine J_iconstN (n := 1) dX10_readClause_98 ?_
  refine J_iand dX10_readClause_99 ?_
  refine J_cvI (told_0 _ b0 _ b1) ?_
  refine J_iconstN (n := 1) dX10_readClause_100 ?_
  refine J_icmp_neN dX10_readClause_101 (by omega) (by omega) (fun a1 => ?_) (fun a1 => ?_)
  · refine J_iload_n dX10_readClause_110 rfl ?_
    refine J_if_ne dX10_readClause_111 (fun c0 => absurd c0 (by decide)) (fun c0 => ?_)
    refine J_iload_n dX10_readClause_114 rfl ?_
    refine J_if_leN dX10_readClause_115 (by omega) (fun a2 => ?_) (fun a2 => ?_)
    · refine J_aload_n dX10_readClause_125 rfl ?_
      refine J_dup dX10_readClause_126 rfl ?_
      refine J_getI dX10_readClause_127 fX10_182 s158 (fun _ => rfl) ?_
      refine J_cvI (hto) ?_
      refine J_iconstN (n := 1) dX10_readClause_130 ?_
      refine J_iload_n dX10_readClause_131 rfl ?_
      refine J_ishl dX10_readClause_132 ?_
      refine J_ior dX10_readClause_133 ?_
      refine J_cvI (tell_0 _ b0 _ b1) ?_
      refine J_putI dX10_readClause_134 fX10_182 s158 rfl (vp_nar_int _) rfl (fun _ _ => rfl) ?_
      have hA := hA.s24 (x := nI (1 + 2 * S.2.2.1 1))
      refine J_aload_n dX10_readClause_137 rfl ?_
      refine J_cVV (ci := 10) (c := 158) (as := []) (st := []) dX10_readClause_138 lX10_179 okX10_scan vX10_scan s158 (by decide) rfl rfl rfl (Nat.le_of_ble_eq_true rfl) ⟨Nat.le_of_ble_eq_true rfl, Nat.le_of_ble_eq_true rfl⟩ CR.f (c_X10_scan (h := sI (h) 158 24 (nI (1 + 2 * S.2.2.1 1))) hG hA.2.1.1 hA.1.2.2.2.1 (tkE_le (rn_le hA.2.1.2))) (fun gs1 es1 => ?_)
      obtain ⟨ps1, hA⟩ := (hA.kg hK hkw (by rw [kwFt_1, if_neg (by omega), if_neg (by omega)]) es1.2 es1.1).x
      have hG := es1.1.g hG
      have hS : Sh gs1 (sI (h) 158 24 (nI (1 + 2 * S.2.2.1 1))) := Sh.rf.ms es1.1
      have hst := stM_b (K := tkK T n (rn cBl T n ps1))
      refine J_iload_n dX10_readClause_141 rfl ?_
      refine J_if_ne dX10_readClause_142 (fun c0 => absurd c0 (by decide)) (fun c0 => ?_)
      refine J_aload_n dX10_readClause_145 rfl ?_
      refine J_iconstN (n := 1) dX10_readClause_146 ?_
      refine J_iconstN (n := 5) dX10_readClause_147 ?_
      refine J_cVI (ci := 10) (c := 158) (as := [pI (nI 1), pI (nI 5)]) (st := []) dX10_readClause_148 lX10_199 okX10_readNumber vX10_readNumber s158 (by decide) rfl rfl rfl (Nat.le_of_ble_eq_true rfl) ⟨Nat.le_of_ble_eq_true rfl, Nat.le_of_ble_eq_true rfl⟩ CR.f (c_X10_readNumber (lo := 1) (hi := 5) hG hA.2.1.1 hA.1 (rn_le hA.2.1.2) (by decide) (by decide)) (fun vn4 gn4 en4 => ?_)
      have yn4 := en4.1
      subst yn4
      refine J_if_eqB dX10_readClause_151 (fun c5 => ?_) (fun c5 => ?_)
      · refine J_iconstN (n := 0) dX10_readClause_167 ?_
        exact J_retZ dX10_readClause_168 rfl rfl (Or.inl ⟨rfl, hA.nb (fOf_N (k := 0) (c := 0) (lo := 1) (hi := 5) rfl rfl rfl (by decide) (by decide)) c5 en4⟩)
      · obtain ⟨pn4, Vn4, hA, mn4, bn4⟩ := hA.nx (fOf_N (k := 0) (c := 0) (lo := 1) (hi := 5) rfl rfl rfl (by decide) (by decide)) c5 en4
        have hG := mn4.g hG
        have hS := hS.mg mn4
        have hst := stM_b (K := tkK T n (rn cBl T n pn4))
        refine J_goto dX10_readClause_154 ?_
        refine J_aload_n dX10_readClause_169 rfl ?_
        refine J_getR (r := some 160) dX10_readClause_170 fX10_17 s158 (fun _ => rfl) (g158_12 hG) ?_
        refine J_iconstN (n := 5) dX10_readClause_173 ?_
        refine J_iload_n dX10_readClause_174 rfl ?_
        refine J_if_ne dX10_readClause_175 (fun c0 => absurd c0 (by decide)) (fun c0 => ?_)
        refine J_iconstN (n := 0) dX10_readClause_178 ?_
        refine J_goto dX10_readClause_179 ?_
        refine J_iaddN dX10_readClause_183 ?_
        refine J_aload_n dX10_readClause_184 rfl ?_
        refine J_getI dX10_readClause_185 fX10_176 s158 (fun _ => rfl) ?_
        refine J_cvI (mn4.2.2.2.2) ?_
        refine J_iastN dX10_readClause_188 s160 (by decide) (by omega) ?_
        have hA := hA.s (c := 160) (k := 5 + 0) (x := nI Vn4) (inD_160 (by omega)) (by decide)
        have hS := hS.s (c := 160) (k := 5 + 0) (x := nI Vn4) (by decide)
        refine J_iconstN (n := 1) dX10_readClause_189 ?_
        exact J_retZ dX10_readClause_190 rfl rfl (Or.inr ⟨rfl, _, _, _, _, hA, rfl, (Md_wks hD rfl).sh hS, rfl⟩)
    · refine J_aload_n dX10_readClause_118 rfl ?_
      refine J_bipush (x := nI 6) dX10_readClause_119 (by decide) ?_
      refine J_cVI (ci := 10) (c := 158) (as := [pI (nI 6)]) (st := []) dX10_readClause_121 lX10_169 okX10_fails vX10_fails s158 (by decide) rfl rfl rfl (Nat.le_of_ble_eq_true rfl) ⟨Nat.le_of_ble_eq_true rfl, Nat.le_of_ble_eq_true rfl⟩ CR.f (c_X10_fails (k := 6) hA.1.2.2.1) (fun vf6 gf6 ef6 => ?_)
      rw [ef6.1, ef6.2]
      exact J_retZ dX10_readClause_124 rfl rfl (Or.inl ⟨rfl, hA.kb hK hkw (by rw [kwFt_1, if_neg (by omega), if_pos (by omega)]) (by decide)⟩)
  · refine J_aload_n dX10_readClause_104 rfl ?_
    refine J_iconstN (n := 3) dX10_readClause_105 ?_
    refine J_cVI (ci := 10) (c := 158) (as := [pI (nI 3)]) (st := []) dX10_readClause_106 lX10_169 okX10_fails vX10_fails s158 (by decide) rfl rfl rfl (Nat.le_of_ble_eq_true rfl) ⟨Nat.le_of_ble_eq_true rfl, Nat.le_of_ble_eq_true rfl⟩ CR.f (c_X10_fails (k := 3) hA.1.2.2.1) (fun vf7 gf7 ef7 => ?_)
    rw [ef7.1, ef7.2]
    exact J_retZ dX10_readClause_109 rfl rfl (Or.inl ⟨rfl, hA.kb hK hkw (by rw [kwFt_1, if_pos (by omega)]) (by decide)⟩)
theorem c_readClause_1 {R : (Nat × Nat) × PS} {h0 h : PH} {T : Nat → Int32} {n p c : Nat} {num : Nat → Nat} {S : PS} (hG : GR h.2.2) (hA : At R h0 h T n (S, 0, c, num) p) (hD : Md h S) (hK : tkK T n (rn cBl T n p) = 2) (hkw : kw (tkV T n (rn cBl T n p)) = 2) : CtI mX10_readClause h [pR (some 158), pI (nI (S.1 0 5 0))] (fun v h' => Rr R h0 h' T n 1 (S.1 0 5 0) v) := by
  have k3 : h.1 158 3 = nI 1 := by have z := hA.1.1; rw [hK] at z; exact z
  have k4 : h.1 158 4 = nI 1 := by have z := hA.1.2.1; rw [hK, clW_k hkw] at z; exact z
  have b0 : S.2.2.1 0 < 2 := hA.2.2.1.1.1.2.2.2.2.2.2.1
  have b1 : S.2.2.1 1 < 2 := hA.2.2.1.1.1.2.2.2.2.2.2.2.1
  have b5 : S.1 0 5 0 ≤ p := hA.2.2.1.1.1.1.2.2.2.2.2
  have bp : p ≤ 900 := Nat.le_trans hA.2.1.2 hA.2.1.1.2.2.1
  have hto := hD.2.2.2.2.2.2.2.2.2
  refine Ct.of (L := [some (pR (some 158)), some (pI (nI (S.1 0 5 0))), none]) rfl rfl (Nat.le_of_ble_eq_true rfl) rfl ?_
  refine J_aload_n dX10_readClause_0 rfl ?_
  refine J_getI dX10_readClause_1 fX10_141 s158 (fun _ => rfl) ?_
  refine J_cvI (k3) ?_
  refine J_iconstN (n := 1) dX10_readClause_4 ?_
  refine J_icmp_neN dX10_readClause_5 (by decide) (by decide) (fun c0 => absurd c0 (by decide)) (fun c0 => ?_)
  refine J_aload_n dX10_readClause_8 rfl ?_
  refine J_getI dX10_readClause_9 fX10_138 s158 (fun _ => rfl) ?_
  refine J_cvI (k4) ?_
  refine J_goto dX10_readClause_12 ?_
  refine J_istore_n (L' := [some (pR (some 158)), some (pI (nI (S.1 0 5 0))), some (pI (nI 1))]) dX10_readClause_16 (by decide) rfl ?_
  refine J_iload_n dX10_readClause_17 rfl ?_
  refine J_tabOut (tgt := 77) dX10_readClause_18 (by decide) rfl ?_
  refine J_iload_n dX10_readClause_77 rfl ?_
  refine J_if_eq dX10_readClause_78 (fun c0 => absurd c0 (by decide)) (fun c0 => ?_)
  refine J_iload_n dX10_readClause_81 rfl ?_
  refine J_iconstN (n := 1) dX10_readClause_82 ?_
  refine J_icmp_eqN dX10_readClause_83 (by decide) (by decide) (fun c0 => ?_) (fun c0 => absurd c0 (by decide))
  refine J_aload_n dX10_readClause_92 rfl ?_
  refine J_getI dX10_readClause_93 fX10_182 s158 (fun _ => rfl) ?_
  refine J_cvI (hto) ?_
  refine J_iload_n dX10_readClause_96 rfl ?_
  refine J_ishr dX10_readClause_97 ?_
  refine J_iconstN (n := 1) dX10_readClause_98 ?_
  refine J_iand dX10_readClause_99 ?_
  refine J_cvI (told_1 _ b0 _ b1) ?_
  refine J_iconstN (n := 1) dX10_readClause_100 ?_
  refine J_icmp_neN dX10_readClause_101 (by omega) (by omega) (fun a1 => ?_) (fun a1 => ?_)
  · refine J_iload_n dX10_readClause_110 rfl ?_
    refine J_if_ne dX10_readClause_111 (fun c0 => ?_) (fun c0 => absurd c0 (by decide))
    refine J_aload_n dX10_readClause_125 rfl ?_
    refine J_dup dX10_readClause_126 rfl ?_
    refine J_getI dX10_readClause_127 fX10_182 s158 (fun _ => rfl) ?_
    refine J_cvI (hto) ?_
    refine J_iconstN (n := 1) dX10_readClause_130 ?_
    refine J_iload_n dX10_readClause_131 rfl ?_
    refine J_ishl dX10_readClause_132 ?_
    refine J_ior dX10_readClause_133 ?_
    refine J_cvI (tell_1 _ b0 _ b1) ?_
    refine J_putI dX10_readClause_134 fX10_182 s158 rfl (vp_nar_int _) rfl (fun _ _ => rfl) ?_
    have hA := hA.s24 (x := nI (S.2.2.1 0 + 2 * 1))
    refine J_aload_n dX10_readClause_137 rfl ?_
    refine J_cVV (ci := 10) (c := 158) (as := []) (st := []) dX10_readClause_138 lX10_179 okX10_scan vX10_scan s158 (by decide) rfl rfl rfl (Nat.le_of_ble_eq_true rfl) ⟨Nat.le_of_ble_eq_true rfl, Nat.le_of_ble_eq_true rfl⟩ CR.f (c_X10_scan (h := sI (h) 158 24 (nI (S.2.2.1 0 + 2 * 1))) hG hA.2.1.1 hA.1.2.2.2.1 (tkE_le (rn_le hA.2.1.2))) (fun gs1 es1 => ?_)
    obtain ⟨ps1, hA⟩ := (hA.kg hK hkw (by rw [kwFt_2, if_neg (by omega)]) es1.2 es1.1).x
    have hG := es1.1.g hG
    have hS : Sh gs1 (sI (h) 158 24 (nI (S.2.2.1 0 + 2 * 1))) := Sh.rf.ms es1.1
    have hst := stM_b (K := tkK T n (rn cBl T n ps1))
    refine J_iload_n dX10_readClause_141 rfl ?_
    refine J_if_ne dX10_readClause_142 (fun c0 => ?_) (fun c0 => absurd c0 (by decide))
    refine J_aload_n dX10_readClause_157 rfl ?_
    refine J_iconstN (n := 0) dX10_readClause_158 ?_
    refine J_bipush (x := nI 99) dX10_readClause_159 (by decide) ?_
    refine J_cVI (ci := 10) (c := 158) (as := [pI (nI 0), pI (nI 99)]) (st := []) dX10_readClause_161 lX10_199 okX10_readNumber vX10_readNumber s158 (by decide) rfl rfl rfl (Nat.le_of_ble_eq_true rfl) ⟨Nat.le_of_ble_eq_true rfl, Nat.le_of_ble_eq_true rfl⟩ CR.f (c_X10_readNumber (lo := 0) (hi := 99) hG hA.2.1.1 hA.1 (rn_le hA.2.1.2) (by decide) (by decide)) (fun vn3 gn3 en3 => ?_)
    have yn3 := en3.1
    subst yn3
    refine J_if_neB dX10_readClause_164 (fun c4 => ?_) (fun c4 => ?_)
    · obtain ⟨pn3, Vn3, hA, mn3, bn3⟩ := hA.nx (fOf_N (k := 1) (c := 0) (lo := 0) (hi := 99) rfl rfl rfl (by decide) (by decide)) c4 en3
      have hG := mn3.g hG
      have hS := hS.mg mn3
      have hst := stM_b (K := tkK T n (rn cBl T n pn3))
      refine J_aload_n dX10_readClause_169 rfl ?_
      refine J_getR (r := some 160) dX10_readClause_170 fX10_17 s158 (fun _ => rfl) (g158_12 hG) ?_
      refine J_iconstN (n := 5) dX10_readClause_173 ?_
      refine J_iload_n dX10_readClause_174 rfl ?_
      refine J_if_ne dX10_readClause_175 (fun c0 => ?_) (fun c0 => absurd c0 (by decide))
      refine J_iconstN (n := 1) dX10_readClause_182 ?_
      refine J_iaddN dX10_readClause_183 ?_
      refine J_aload_n dX10_readClause_184 rfl ?_
      refine J_getI dX10_readClause_185 fX10_176 s158 (fun _ => rfl) ?_
      refine J_cvI (mn3.2.2.2.2) ?_
      refine J_iastN dX10_readClause_188 s160 (by decide) (by omega) ?_
      have hA := hA.s (c := 160) (k := 5 + 1) (x := nI Vn3) (inD_160 (by omega)) (by decide)
      have hS := hS.s (c := 160) (k := 5 + 1) (x := nI Vn3) (by decide)
      refine J_iconstN (n := 1) dX10_readClause_189 ?_
      exact J_retZ dX10_readClause_190 rfl rfl (Or.inr ⟨rfl, _, _, _, _, hA, rfl, (Md_css hD rfl).sh hS, rfl⟩)
    · refine J_iconstN (n := 0) dX10_readClause_167 ?_
      exact J_retZ dX10_readClause_168 rfl rfl (Or.inl ⟨rfl, hA.nb (fOf_N (k := 1) (c := 0) (lo := 0) (hi := 99) rfl rfl rfl (by decide) (by decide)) c4 en3⟩)
  · refine J_aload_n dX10_readClause_104 rfl ?_
    refine J_iconstN (n := 3) dX10_readClause_105 ?_
    refine J_cVI (ci := 10) (c := 158) (as := [pI (nI 3)]) (st := []) dX10_readClause_106 lX10_169 okX10_fails vX10_fails s158 (by decide) rfl rfl rfl (Nat.le_of_ble_eq_true rfl) ⟨Nat.le_of_ble_eq_true rfl, Nat.le_of_ble_eq_true rfl⟩ CR.f (c_X10_fails (k := 3) hA.1.2.2.1) (fun vf5 gf5 ef5 => ?_)
    rw [ef5.1, ef5.2]
    exact J_retZ dX10_readClause_109 rfl rfl (Or.inl ⟨rfl, hA.kb hK hkw (by rw [kwFt_2, if_pos (by omega)]) (by decide)⟩)
theorem c_readClause_x {R : (Nat × Nat) × PS} {h0 h : PH} {T : Nat → Int32} {n p c : Nat} {num : Nat → Nat} {S : PS} (hG : GR h.2.2) (hA : At R h0 h T n (S, 0, c, num) p) (hD : Md h S) (h0K : ¬ tkK T n (rn cBl T n p) = 0) (hc : tkK T n (rn cBl T n p) = 2 → kw (tkV T n (rn cBl T n p)) = 0) : CtI mX10_readClause h [pR (some 158), pI (nI (S.1 0 5 0))] (fun v h' => v = nI 0 ∧ Bad R h0 h') := by
  have hst := stM_b (K := tkK T n (rn cBl T n p))
  have hn : clW (tkK T n (rn cBl T n p)) (tkV T n (rn cBl T n p)) = -1 := by
    by_cases y : tkK T n (rn cBl T n p) = 2
    · rw [y]
      exact clW_0 (hc y)
    · exact if_neg y
  have hf : fOf (S, 0, c, num) (tkK T n (rn cBl T n p)) (tkV T n (rn cBl T n p)) = 1 := fOf_b0.trans (btw_m h0K (by rw [hn]; rfl))
  refine Ct.of (L := [some (pR (some 158)), some (pI (nI (S.1 0 5 0))), none]) rfl rfl (Nat.le_of_ble_eq_true rfl) rfl ?_
  refine J_aload_n dX10_readClause_0 rfl ?_
  refine J_getI dX10_readClause_1 fX10_141 s158 (fun _ => rfl) ?_
  refine J_cvI (hA.1.1) ?_
  refine J_iconstN (n := 1) dX10_readClause_4 ?_
  refine J_icmp_neN dX10_readClause_5 (by omega) (by omega) (fun c1 => ?_) (fun c1 => ?_)
  · refine J_iconst (x := -1) dX10_readClause_15 (by decide) ?_
    refine J_istore_n (L' := [some (pR (some 158)), some (pI (nI (S.1 0 5 0))), some (pI ((-1)))]) dX10_readClause_16 (by decide) rfl ?_
    refine J_iload_n dX10_readClause_17 rfl ?_
    refine J_tabOut (tgt := 77) dX10_readClause_18 (by decide) rfl ?_
    refine J_iload_n dX10_readClause_77 rfl ?_
    refine J_if_eq dX10_readClause_78 (fun c0 => absurd c0 (by decide)) (fun c0 => ?_)
    refine J_iload_n dX10_readClause_81 rfl ?_
    refine J_iconstN (n := 1) dX10_readClause_82 ?_
    refine J_icmp_eq dX10_readClause_83 (fun c3 => ?_) (fun c3 => ?_)
    · exact absurd c3 (by decide)
    · refine J_aload_n dX10_readClause_86 rfl ?_
      refine J_iconstN (n := 1) dX10_readClause_87 ?_
      refine J_cVI (ci := 10) (c := 158) (as := [pI (nI 1)]) (st := []) dX10_readClause_88 lX10_169 okX10_fails vX10_fails s158 (by decide) rfl rfl rfl (Nat.le_of_ble_eq_true rfl) ⟨Nat.le_of_ble_eq_true rfl, Nat.le_of_ble_eq_true rfl⟩ CR.f (c_X10_fails (k := 1) hA.1.2.2.1) (fun vf4 gf4 ef4 => ?_)
      rw [ef4.1, ef4.2]
      exact J_retZ dX10_readClause_91 rfl rfl ⟨rfl, hA.bad hf (by decide)⟩
  · refine J_aload_n dX10_readClause_8 rfl ?_
    refine J_getI dX10_readClause_9 fX10_138 s158 (fun _ => rfl) ?_
    refine J_cvI ((hA.1.2.1.trans hn)) ?_
    refine J_goto dX10_readClause_12 ?_
    refine J_istore_n (L' := [some (pR (some 158)), some (pI (nI (S.1 0 5 0))), some (pI ((-1)))]) dX10_readClause_16 (by decide) rfl ?_
    refine J_iload_n dX10_readClause_17 rfl ?_
    refine J_tabOut (tgt := 77) dX10_readClause_18 (by decide) rfl ?_
    refine J_iload_n dX10_readClause_77 rfl ?_
    refine J_if_eq dX10_readClause_78 (fun c0 => absurd c0 (by decide)) (fun c0 => ?_)
    refine J_iload_n dX10_readClause_81 rfl ?_
    refine J_iconstN (n := 1) dX10_readClause_82 ?_
    refine J_icmp_eq dX10_readClause_83 (fun c6 => ?_) (fun c6 => ?_)
    · exact absurd c6 (by decide)
    · refine J_aload_n dX10_readClause_86 rfl ?_
      refine J_iconstN (n := 1) dX10_readClause_87 ?_
      refine J_cVI (ci := 10) (c := 158) (as := [pI (nI 1)]) (st := []) dX10_readClause_88 lX10_169 okX10_fails vX10_fails s158 (by decide) rfl rfl rfl (Nat.le_of_ble_eq_true rfl) ⟨Nat.le_of_ble_eq_true rfl, Nat.le_of_ble_eq_true rfl⟩ CR.f (c_X10_fails (k := 1) hA.1.2.2.1) (fun vf7 gf7 ef7 => ?_)
      rw [ef7.1, ef7.2]
      exact J_retZ dX10_readClause_91 rfl rfl ⟨rfl, hA.bad hf (by decide)⟩
