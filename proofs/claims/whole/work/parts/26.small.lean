theorem c_X9_hasThing {h : PH} {t : Int32} {p n : Nat} (hG : GR h.2.2) (hp : IsPo p) (hc : h.2.2 0 2 = some p) (hn : h.1 p 4 = nI n) (bn : n < 1000) : CtI mX9_hasThing h [pR (some 0), pI t] (fun r h' => r = bI (inR t n) ∧ h' = h) := by
  refine Ct.of (L := [some (pR (some 0)), some (pI t)]) rfl rfl (Nat.le_of_ble_eq_true rfl) rfl ?_
  refine J_iload_n dX9_hasThing_0 rfl ?_
  refine J_if_lt dX9_hasThing_1 (fun c1 => ?_) (fun c1 => ?_)
  · refine J_iconstN (n := 0) dX9_hasThing_19 ?_
    exact J_retZ dX9_hasThing_20 rfl rfl ⟨(by first | exact bI_t ⟨by have := Int32.not_lt.mp c1; exact le_0_.mp this, (lt_nI (by omega)).mp (Int32.not_le.mp c2)⟩ | exact bI_f (fun q => absurd (lt_0_.mp c1) (by omega)) | exact bI_f (fun q => absurd ((nI_le_ (by omega)).mp c2) (by omega))), rfl⟩
  · refine J_iload_n dX9_hasThing_4 rfl ?_
    refine J_aload_n dX9_hasThing_5 rfl ?_
    refine J_getR (r := some p) dX9_hasThing_6 fX9_20 s0 (fun _ => rfl) (hc) ?_
    refine J_getI dX9_hasThing_9 fX9_113 hp.s (fun _ => rfl) ?_
    refine J_cvI (hn) ?_
    refine J_icmp_ge dX9_hasThing_12 (fun c2 => ?_) (fun c2 => ?_)
    · refine J_iconstN (n := 0) dX9_hasThing_19 ?_
      exact J_retZ dX9_hasThing_20 rfl rfl ⟨(by first | exact bI_t ⟨by have := Int32.not_lt.mp c1; exact le_0_.mp this, (lt_nI (by omega)).mp (Int32.not_le.mp c2)⟩ | exact bI_f (fun q => absurd (lt_0_.mp c1) (by omega)) | exact bI_f (fun q => absurd ((nI_le_ (by omega)).mp c2) (by omega))), rfl⟩
    · refine J_iconstN (n := 1) dX9_hasThing_15 ?_
      refine J_goto dX9_hasThing_16 ?_
      exact J_retZ dX9_hasThing_20 rfl rfl ⟨(by first | exact bI_t ⟨by have := Int32.not_lt.mp c1; exact le_0_.mp this, (lt_nI (by omega)).mp (Int32.not_le.mp c2)⟩ | exact bI_f (fun q => absurd (lt_0_.mp c1) (by omega)) | exact bI_f (fun q => absurd ((nI_le_ (by omega)).mp c2) (by omega))), rfl⟩
theorem c_X9_hasWinter {h : PH} {t : Int32} {p n : Nat} (hG : GR h.2.2) (hp : IsPo p) (hc : h.2.2 0 2 = some p) (hn : h.1 p 3 = nI n) (bn : n < 1000) : CtI mX9_hasWinter h [pR (some 0), pI t] (fun r h' => r = bI (inR t n) ∧ h' = h) := by
  refine Ct.of (L := [some (pR (some 0)), some (pI t)]) rfl rfl (Nat.le_of_ble_eq_true rfl) rfl ?_
  refine J_iload_n dX9_hasWinter_0 rfl ?_
  refine J_if_lt dX9_hasWinter_1 (fun c1 => ?_) (fun c1 => ?_)
  · refine J_iconstN (n := 0) dX9_hasWinter_19 ?_
    exact J_retZ dX9_hasWinter_20 rfl rfl ⟨(by first | exact bI_t ⟨by have := Int32.not_lt.mp c1; exact le_0_.mp this, (lt_nI (by omega)).mp (Int32.not_le.mp c2)⟩ | exact bI_f (fun q => absurd (lt_0_.mp c1) (by omega)) | exact bI_f (fun q => absurd ((nI_le_ (by omega)).mp c2) (by omega))), rfl⟩
  · refine J_iload_n dX9_hasWinter_4 rfl ?_
    refine J_aload_n dX9_hasWinter_5 rfl ?_
    refine J_getR (r := some p) dX9_hasWinter_6 fX9_20 s0 (fun _ => rfl) (hc) ?_
    refine J_getI dX9_hasWinter_9 fX9_110 hp.s (fun _ => rfl) ?_
    refine J_cvI (hn) ?_
    refine J_icmp_ge dX9_hasWinter_12 (fun c2 => ?_) (fun c2 => ?_)
    · refine J_iconstN (n := 0) dX9_hasWinter_19 ?_
      exact J_retZ dX9_hasWinter_20 rfl rfl ⟨(by first | exact bI_t ⟨by have := Int32.not_lt.mp c1; exact le_0_.mp this, (lt_nI (by omega)).mp (Int32.not_le.mp c2)⟩ | exact bI_f (fun q => absurd (lt_0_.mp c1) (by omega)) | exact bI_f (fun q => absurd ((nI_le_ (by omega)).mp c2) (by omega))), rfl⟩
    · refine J_iconstN (n := 1) dX9_hasWinter_15 ?_
      refine J_goto dX9_hasWinter_16 ?_
      exact J_retZ dX9_hasWinter_20 rfl rfl ⟨(by first | exact bI_t ⟨by have := Int32.not_lt.mp c1; exact le_0_.mp this, (lt_nI (by omega)).mp (Int32.not_le.mp c2)⟩ | exact bI_f (fun q => absurd (lt_0_.mp c1) (by omega)) | exact bI_f (fun q => absurd ((nI_le_ (by omega)).mp c2) (by omega))), rfl⟩
theorem c_X9_isOrder {h : PH} {t : Int32} : CtI mX9_isOrder h [pI t] (fun r h' => r = bI (inR t 41) ∧ h' = h) := by
  refine Ct.of (L := [some (pI t)]) rfl rfl (Nat.le_of_ble_eq_true rfl) rfl ?_
  refine J_iload_n dX9_isOrder_0 rfl ?_
  refine J_if_lt dX9_isOrder_1 (fun c1 => ?_) (fun c1 => ?_)
  · refine J_iconstN (n := 0) dX9_isOrder_14 ?_
    exact J_retZ dX9_isOrder_15 rfl rfl ⟨(by first | exact bI_t ⟨by have := Int32.not_lt.mp c1; exact le_0_.mp this, by have := (le_nI (by decide)).mp (Int32.not_lt.mp c2); omega⟩ | exact bI_f (fun q => absurd (lt_0_.mp c1) (by omega)) | exact bI_f (fun q => absurd ((nI_lt_ (by decide)).mp c2) (by omega))), rfl⟩
  · refine J_iload_n dX9_isOrder_4 rfl ?_
    refine J_bipush (x := nI 40) dX9_isOrder_5 (by decide) ?_
    refine J_icmp_gt dX9_isOrder_7 (fun c2 => ?_) (fun c2 => ?_)
    · refine J_iconstN (n := 0) dX9_isOrder_14 ?_
      exact J_retZ dX9_isOrder_15 rfl rfl ⟨(by first | exact bI_t ⟨by have := Int32.not_lt.mp c1; exact le_0_.mp this, by have := (le_nI (by decide)).mp (Int32.not_lt.mp c2); omega⟩ | exact bI_f (fun q => absurd (lt_0_.mp c1) (by omega)) | exact bI_f (fun q => absurd ((nI_lt_ (by decide)).mp c2) (by omega))), rfl⟩
    · refine J_iconstN (n := 1) dX9_isOrder_10 ?_
      refine J_goto dX9_isOrder_11 ?_
      exact J_retZ dX9_isOrder_15 rfl rfl ⟨(by first | exact bI_t ⟨by have := Int32.not_lt.mp c1; exact le_0_.mp this, by have := (le_nI (by decide)).mp (Int32.not_lt.mp c2); omega⟩ | exact bI_f (fun q => absurd (lt_0_.mp c1) (by omega)) | exact bI_f (fun q => absurd ((nI_lt_ (by decide)).mp c2) (by omega))), rfl⟩
theorem c_X9_emptyTape {h : PH} {n : Nat} (hn : h.1 0 1 = nI n) : CtI mX9_emptyTape h [pR (some 0)] (fun r h' => r = nI n ∧ h' = sI h 0 1 (nI 0)) := by
  refine Ct.of (L := [some (pR (some 0)), none]) rfl rfl (Nat.le_of_ble_eq_true rfl) rfl ?_
  refine J_aload_n dX9_emptyTape_0 rfl ?_
  refine J_getI dX9_emptyTape_1 fX9_13 s0 (fun _ => rfl) ?_
  refine J_cvI (hn) ?_
  refine J_istore_n (L' := [some (pR (some 0)), some (pI (nI n))]) dX9_emptyTape_4 (by decide) rfl ?_
  refine J_aload_n dX9_emptyTape_5 rfl ?_
  refine J_iconstN (n := 0) dX9_emptyTape_6 ?_
  refine J_putI dX9_emptyTape_7 fX9_13 s0 rfl (vp_nar_int _) rfl (fun _ _ => rfl) ?_
  refine J_iload_n dX9_emptyTape_10 rfl ?_
  exact J_retI dX9_emptyTape_11 rfl ⟨rfl, rfl⟩
