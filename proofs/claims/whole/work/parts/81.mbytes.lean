/-! ===== bytes and words of the model ===== -/
/-- the model's text: the tape, its size -/
def Mt (h : PH) (T : Nat → Int32) (n : Nat) : Prop := (∀ i, i < 900 → h.1 159 i = T i) ∧ h.1 158 2 = nI n ∧ n ≤ 900 ∧ ∀ i, (T i).toInt8.toInt32 = T i
theorem c_X10_byteAt {h : PH} {T : Nat → Int32} {n j : Nat} (hG : GR h.2.2) (hB : Mt h T n) (hj : j < 2000) : CtI mX10_byteAt h [pR (some 158), pI (nI j)] (fun v h' => v = byM T n j ∧ h' = h) := by
  have hn9 := hB.2.2.1
  refine Ct.of (L := [some (pR (some 158)), some (pI (nI j))]) rfl rfl (Nat.le_of_ble_eq_true rfl) rfl ?_
  refine J_iload_n dX10_byteAt_0 rfl ?_
  refine J_aload_n dX10_byteAt_1 rfl ?_
  refine J_getI dX10_byteAt_2 fX10_113 s158 (fun _ => rfl) ?_
  refine J_cvI (hB.2.1) ?_
  refine J_icmp_geN dX10_byteAt_5 (by omega) (by omega) (fun c1 => ?_) (fun c1 => ?_)
  · refine J_iconst (x := -1) dX10_byteAt_21 (by decide) ?_
    exact J_retI dX10_byteAt_22 rfl ⟨(if_neg (by omega)).symm, rfl⟩
  · refine J_aload_n dX10_byteAt_8 rfl ?_
    refine J_getR (r := some 159) dX10_byteAt_9 fX10_7 s158 (fun _ => rfl) (g158_0 hG) ?_
    refine J_iload_n dX10_byteAt_12 rfl ?_
    refine J_baldN dX10_byteAt_13 s159 (by decide) (by omega) ?_
    refine J_cvI ((hB.1 j (by omega))) ?_
    refine J_sipush (x := nI 255) dX10_byteAt_14 (by decide) ?_
    refine J_iand dX10_byteAt_17 ?_
    refine J_goto dX10_byteAt_18 ?_
    exact J_retI dX10_byteAt_22 rfl ⟨(if_pos (by omega)).symm, rfl⟩
theorem c_X10_isSmall {h : PH} {x : Int32} : CtI mX10_isSmall h [pI x] (fun v h' => v = bI (cLe x = true) ∧ h' = h) := by
  refine Ct.of (L := [some (pI x)]) rfl rfl (Nat.le_of_ble_eq_true rfl) rfl ?_
  refine J_iload_n dX10_isSmall_0 rfl ?_
  refine J_bipush (x := nI 97) dX10_isSmall_1 (by decide) ?_
  refine J_icmp_lt dX10_isSmall_3 (fun d1 => ?_) (fun d1 => ?_)
  · refine J_iconstN (n := 0) dX10_isSmall_16 ?_
    exact J_retZ dX10_isSmall_17 rfl rfl ⟨bI_f (fun q => by have z := (lt_nI (b := 97) (by decide)).mp d1; have y := of_decide_eq_true q; omega), rfl⟩
  · refine J_iload_n dX10_isSmall_6 rfl ?_
    refine J_bipush (x := nI 122) dX10_isSmall_7 (by decide) ?_
    refine J_icmp_gt dX10_isSmall_9 (fun d2 => ?_) (fun d2 => ?_)
    · refine J_iconstN (n := 0) dX10_isSmall_16 ?_
      exact J_retZ dX10_isSmall_17 rfl rfl ⟨bI_f (fun q => by have z := (nI_lt_ (b := 122) (by decide)).mp d2; have y := of_decide_eq_true q; omega), rfl⟩
    · refine J_iconstN (n := 1) dX10_isSmall_12 ?_
      refine J_goto dX10_isSmall_13 ?_
      exact J_retZ dX10_isSmall_17 rfl rfl ⟨bI_t (decide_eq_true ⟨by have z := mt (lt_nI (b := 97) (by decide)).mpr d1; omega, by have z := mt (nI_lt_ (b := 122) (by decide)).mpr d2; omega⟩), rfl⟩
theorem c_X10_isDigit {h : PH} {x : Int32} : CtI mX10_isDigit h [pI x] (fun v h' => v = bI (cDi x = true) ∧ h' = h) := by
  refine Ct.of (L := [some (pI x)]) rfl rfl (Nat.le_of_ble_eq_true rfl) rfl ?_
  refine J_iload_n dX10_isDigit_0 rfl ?_
  refine J_bipush (x := nI 48) dX10_isDigit_1 (by decide) ?_
  refine J_icmp_lt dX10_isDigit_3 (fun d1 => ?_) (fun d1 => ?_)
  · refine J_iconstN (n := 0) dX10_isDigit_16 ?_
    exact J_retZ dX10_isDigit_17 rfl rfl ⟨bI_f (fun q => by have z := (lt_nI (b := 48) (by decide)).mp d1; have y := of_decide_eq_true q; omega), rfl⟩
  · refine J_iload_n dX10_isDigit_6 rfl ?_
    refine J_bipush (x := nI 57) dX10_isDigit_7 (by decide) ?_
    refine J_icmp_gt dX10_isDigit_9 (fun d2 => ?_) (fun d2 => ?_)
    · refine J_iconstN (n := 0) dX10_isDigit_16 ?_
      exact J_retZ dX10_isDigit_17 rfl rfl ⟨bI_f (fun q => by have z := (nI_lt_ (b := 57) (by decide)).mp d2; have y := of_decide_eq_true q; omega), rfl⟩
    · refine J_iconstN (n := 1) dX10_isDigit_12 ?_
      refine J_goto dX10_isDigit_13 ?_
      exact J_retZ dX10_isDigit_17 rfl rfl ⟨bI_t (decide_eq_true ⟨by have z := mt (lt_nI (b := 48) (by decide)).mpr d1; omega, by have z := mt (nI_lt_ (b := 57) (by decide)).mpr d2; omega⟩), rfl⟩
