/-! ===== the constructors, at concrete cells ===== -/
theorem TK_at {n c : Nat} {x : Nat ⊕ (Nat × Nat)} (h : SHF[c]? = some x) (hc : c < n) : (SHF.take n)[c]? = some x := by
  rw [List.getElem?_take, if_pos hc]
  exact h
def hp0 : PH := (fun _ _ => 0, fun _ _ => 0, fun _ _ => none)
def hpA : PH := zc hp0 0
def hp1 : PH := (zc (sI (sR (zc hpA 1) 0 0 (some 1)) 0 1 (nI 0)) 2)
def hp2 : PH := (zc (sR (zc (sR (zc (sR (mz (sR (zc hp1 3) 2 8 (some 3)) 4 4) 2 9 (some 4)) 9) 2 10 (some 9)) 10) 2 11 (some 10)) 11)
def hp3 : PH := (sR (zc (sR (mz hp2 12 4) 11 10 (some 12)) 17) 11 11 (some 17))
theorem ci1_X7_init : Ct mX7_init (SHF.take 12) (SHF.take 18) hp2 [pR (some 11)] (fun r h' => r = none ∧ h' = hp3) := by
  refine Ct.of (L := [some (pR (some 11))]) rfl rfl (Nat.le_of_ble_eq_true rfl) rfl ?_
  refine J_aload_n dX7_init_0 rfl ?_
  refine J_obj dX7_init_1 (lw_inG 152 (by decide +kernel) (by decide +kernel)) (lw_inG 134 (by decide +kernel) (by decide +kernel)) (lw_inG 135 (by decide +kernel) (by decide +kernel)) (Nat.le_of_ble_eq_true rfl) (Nat.le_of_ble_eq_true rfl) ?_
  refine J_aload_n dX7_init_4 rfl ?_
  refine J_iconstN (n := 4) dX7_init_5 ?_
  refine J_iconstN (n := 5) dX7_init_6 ?_
  refine J_mna (kd := 7) (kr := 0) (n := 12) (N := 4) (K := 5) (ty := .int) dX7_init_7 (by decide) (lw_inG 153 (by decide +kernel) (by decide +kernel)) (by decide) (lw_inG 227 (by decide +kernel) (by decide +kernel)) (by decide) (by decide) (by decide) s12 (by decide) ⟨⟨by decide +kernel, by decide +kernel⟩, by decide +kernel, by decide +kernel⟩ ?_
  refine J_putFR dX7_init_11 fX7_11 (TK_at s11 (by decide)) rfl rfl rfl (Or.inr ⟨_, rfl⟩) ?_
  refine J_aload_n dX7_init_14 rfl ?_
  refine J_iconstN (n := 4) dX7_init_15 ?_
  refine J_newa (kd := 2) (n := 17) (N := 4) dX7_init_16 (by decide) rfl (lw_inG 228 (by decide +kernel) (by decide +kernel)) (by decide) s17 ⟨⟨by decide +kernel, by decide +kernel⟩, by decide +kernel, by decide +kernel⟩ ?_
  refine J_putFR dX7_init_18 fX7_16 (TK_at s11 (by decide)) rfl rfl rfl (Or.inr ⟨_, rfl⟩) ?_
  exact J_vreturn dX7_init_21 rfl ⟨rfl, rfl⟩
def hp4 : PH := (zc (sR hp3 9 (nI 0).toNatClampNeg (some 11)) 18)
def hp5 : PH := (sR (zc (sR (mz hp4 19 4) 18 10 (some 19)) 24) 18 11 (some 24))
theorem ci2_X7_init : Ct mX7_init (SHF.take 19) (SHF.take 25) hp4 [pR (some 18)] (fun r h' => r = none ∧ h' = hp5) := by
  refine Ct.of (L := [some (pR (some 18))]) rfl rfl (Nat.le_of_ble_eq_true rfl) rfl ?_
  refine J_aload_n dX7_init_0 rfl ?_
  refine J_obj dX7_init_1 (lw_inG 152 (by decide +kernel) (by decide +kernel)) (lw_inG 134 (by decide +kernel) (by decide +kernel)) (lw_inG 135 (by decide +kernel) (by decide +kernel)) (Nat.le_of_ble_eq_true rfl) (Nat.le_of_ble_eq_true rfl) ?_
  refine J_aload_n dX7_init_4 rfl ?_
  refine J_iconstN (n := 4) dX7_init_5 ?_
  refine J_iconstN (n := 5) dX7_init_6 ?_
  refine J_mna (kd := 7) (kr := 0) (n := 19) (N := 4) (K := 5) (ty := .int) dX7_init_7 (by decide) (lw_inG 153 (by decide +kernel) (by decide +kernel)) (by decide) (lw_inG 227 (by decide +kernel) (by decide +kernel)) (by decide) (by decide) (by decide) s19 (by decide) ⟨⟨by decide +kernel, by decide +kernel⟩, by decide +kernel, by decide +kernel⟩ ?_
  refine J_putFR dX7_init_11 fX7_11 (TK_at s18 (by decide)) rfl rfl rfl (Or.inr ⟨_, rfl⟩) ?_
  refine J_aload_n dX7_init_14 rfl ?_
  refine J_iconstN (n := 4) dX7_init_15 ?_
  refine J_newa (kd := 2) (n := 24) (N := 4) dX7_init_16 (by decide) rfl (lw_inG 228 (by decide +kernel) (by decide +kernel)) (by decide) s24 ⟨⟨by decide +kernel, by decide +kernel⟩, by decide +kernel, by decide +kernel⟩ ?_
  refine J_putFR dX7_init_18 fX7_16 (TK_at s18 (by decide)) rfl rfl rfl (Or.inr ⟨_, rfl⟩) ?_
  exact J_vreturn dX7_init_21 rfl ⟨rfl, rfl⟩
def hp6 : PH := (zc (sR hp5 9 (nI 1).toNatClampNeg (some 18)) 25)
def hp7 : PH := (sR (zc (sR (mz hp6 26 4) 25 10 (some 26)) 31) 25 11 (some 31))
theorem ci3_X7_init : Ct mX7_init (SHF.take 26) (SHF.take 32) hp6 [pR (some 25)] (fun r h' => r = none ∧ h' = hp7) := by
  refine Ct.of (L := [some (pR (some 25))]) rfl rfl (Nat.le_of_ble_eq_true rfl) rfl ?_
  refine J_aload_n dX7_init_0 rfl ?_
  refine J_obj dX7_init_1 (lw_inG 152 (by decide +kernel) (by decide +kernel)) (lw_inG 134 (by decide +kernel) (by decide +kernel)) (lw_inG 135 (by decide +kernel) (by decide +kernel)) (Nat.le_of_ble_eq_true rfl) (Nat.le_of_ble_eq_true rfl) ?_
  refine J_aload_n dX7_init_4 rfl ?_
  refine J_iconstN (n := 4) dX7_init_5 ?_
  refine J_iconstN (n := 5) dX7_init_6 ?_
  refine J_mna (kd := 7) (kr := 0) (n := 26) (N := 4) (K := 5) (ty := .int) dX7_init_7 (by decide) (lw_inG 153 (by decide +kernel) (by decide +kernel)) (by decide) (lw_inG 227 (by decide +kernel) (by decide +kernel)) (by decide) (by decide) (by decide) s26 (by decide) ⟨⟨by decide +kernel, by decide +kernel⟩, by decide +kernel, by decide +kernel⟩ ?_
  refine J_putFR dX7_init_11 fX7_11 (TK_at s25 (by decide)) rfl rfl rfl (Or.inr ⟨_, rfl⟩) ?_
  refine J_aload_n dX7_init_14 rfl ?_
  refine J_iconstN (n := 4) dX7_init_15 ?_
  refine J_newa (kd := 2) (n := 31) (N := 4) dX7_init_16 (by decide) rfl (lw_inG 228 (by decide +kernel) (by decide +kernel)) (by decide) s31 ⟨⟨by decide +kernel, by decide +kernel⟩, by decide +kernel, by decide +kernel⟩ ?_
  refine J_putFR dX7_init_18 fX7_16 (TK_at s25 (by decide)) rfl rfl rfl (Or.inr ⟨_, rfl⟩) ?_
  exact J_vreturn dX7_init_21 rfl ⟨rfl, rfl⟩
def hp8 : PH := (zc (sR hp7 9 (nI 2).toNatClampNeg (some 25)) 32)
def hp9 : PH := (sR (zc (sR (mz hp8 33 4) 32 10 (some 33)) 38) 32 11 (some 38))
theorem ci4_X7_init : Ct mX7_init (SHF.take 33) (SHF.take 39) hp8 [pR (some 32)] (fun r h' => r = none ∧ h' = hp9) := by
  refine Ct.of (L := [some (pR (some 32))]) rfl rfl (Nat.le_of_ble_eq_true rfl) rfl ?_
  refine J_aload_n dX7_init_0 rfl ?_
  refine J_obj dX7_init_1 (lw_inG 152 (by decide +kernel) (by decide +kernel)) (lw_inG 134 (by decide +kernel) (by decide +kernel)) (lw_inG 135 (by decide +kernel) (by decide +kernel)) (Nat.le_of_ble_eq_true rfl) (Nat.le_of_ble_eq_true rfl) ?_
  refine J_aload_n dX7_init_4 rfl ?_
  refine J_iconstN (n := 4) dX7_init_5 ?_
  refine J_iconstN (n := 5) dX7_init_6 ?_
  refine J_mna (kd := 7) (kr := 0) (n := 33) (N := 4) (K := 5) (ty := .int) dX7_init_7 (by decide) (lw_inG 153 (by decide +kernel) (by decide +kernel)) (by decide) (lw_inG 227 (by decide +kernel) (by decide +kernel)) (by decide) (by decide) (by decide) s33 (by decide) ⟨⟨by decide +kernel, by decide +kernel⟩, by decide +kernel, by decide +kernel⟩ ?_
  refine J_putFR dX7_init_11 fX7_11 (TK_at s32 (by decide)) rfl rfl rfl (Or.inr ⟨_, rfl⟩) ?_
  refine J_aload_n dX7_init_14 rfl ?_
  refine J_iconstN (n := 4) dX7_init_15 ?_
  refine J_newa (kd := 2) (n := 38) (N := 4) dX7_init_16 (by decide) rfl (lw_inG 228 (by decide +kernel) (by decide +kernel)) (by decide) s38 ⟨⟨by decide +kernel, by decide +kernel⟩, by decide +kernel, by decide +kernel⟩ ?_
  refine J_putFR dX7_init_18 fX7_16 (TK_at s32 (by decide)) rfl rfl rfl (Or.inr ⟨_, rfl⟩) ?_
  exact J_vreturn dX7_init_21 rfl ⟨rfl, rfl⟩
def hp10 : PH := (zc (sR hp9 9 (nI 3).toNatClampNeg (some 32)) 39)
def hp11 : PH := hp10
theorem ci5_X0_init : Ct mX0_init (SHF.take 40) (SHF.take 40) hp10 [pR (some 39)] (fun r h' => r = none ∧ h' = hp11) := by
  refine Ct.of (L := [some (pR (some 39))]) rfl rfl (Nat.le_of_ble_eq_true rfl) rfl ?_
  refine J_aload_n dX0_init_0 rfl ?_
  refine J_obj dX0_init_1 (lw_inG 233 (by decide +kernel) (by decide +kernel)) (lw_inG 134 (by decide +kernel) (by decide +kernel)) (lw_inG 135 (by decide +kernel) (by decide +kernel)) (Nat.le_of_ble_eq_true rfl) (Nat.le_of_ble_eq_true rfl) ?_
  exact J_vreturn dX0_init_4 rfl ⟨rfl, rfl⟩
def hp12 : PH := (zc (sR hp11 10 (nI 0).toNatClampNeg (some 39)) 40)
def hp13 : PH := hp12
theorem ci6_X0_init : Ct mX0_init (SHF.take 41) (SHF.take 41) hp12 [pR (some 40)] (fun r h' => r = none ∧ h' = hp13) := by
  refine Ct.of (L := [some (pR (some 40))]) rfl rfl (Nat.le_of_ble_eq_true rfl) rfl ?_
  refine J_aload_n dX0_init_0 rfl ?_
  refine J_obj dX0_init_1 (lw_inG 233 (by decide +kernel) (by decide +kernel)) (lw_inG 134 (by decide +kernel) (by decide +kernel)) (lw_inG 135 (by decide +kernel) (by decide +kernel)) (Nat.le_of_ble_eq_true rfl) (Nat.le_of_ble_eq_true rfl) ?_
  exact J_vreturn dX0_init_4 rfl ⟨rfl, rfl⟩
def hp14 : PH := (zc (sR hp13 10 (nI 1).toNatClampNeg (some 40)) 41)
def hp15 : PH := hp14
theorem ci7_X0_init : Ct mX0_init (SHF.take 42) (SHF.take 42) hp14 [pR (some 41)] (fun r h' => r = none ∧ h' = hp15) := by
  refine Ct.of (L := [some (pR (some 41))]) rfl rfl (Nat.le_of_ble_eq_true rfl) rfl ?_
  refine J_aload_n dX0_init_0 rfl ?_
  refine J_obj dX0_init_1 (lw_inG 233 (by decide +kernel) (by decide +kernel)) (lw_inG 134 (by decide +kernel) (by decide +kernel)) (lw_inG 135 (by decide +kernel) (by decide +kernel)) (Nat.le_of_ble_eq_true rfl) (Nat.le_of_ble_eq_true rfl) ?_
  exact J_vreturn dX0_init_4 rfl ⟨rfl, rfl⟩
def hp16 : PH := (zc (sR hp15 10 (nI 2).toNatClampNeg (some 41)) 42)
def hp17 : PH := hp16
theorem ci8_X0_init : Ct mX0_init (SHF.take 43) (SHF.take 43) hp16 [pR (some 42)] (fun r h' => r = none ∧ h' = hp17) := by
  refine Ct.of (L := [some (pR (some 42))]) rfl rfl (Nat.le_of_ble_eq_true rfl) rfl ?_
  refine J_aload_n dX0_init_0 rfl ?_
  refine J_obj dX0_init_1 (lw_inG 233 (by decide +kernel) (by decide +kernel)) (lw_inG 134 (by decide +kernel) (by decide +kernel)) (lw_inG 135 (by decide +kernel) (by decide +kernel)) (Nat.le_of_ble_eq_true rfl) (Nat.le_of_ble_eq_true rfl) ?_
  exact J_vreturn dX0_init_4 rfl ⟨rfl, rfl⟩
def hp18 : PH := (zc (sR hp17 10 (nI 3).toNatClampNeg (some 42)) 43)
def hp19 : PH := hp18
theorem ci9_X0_init : Ct mX0_init (SHF.take 44) (SHF.take 44) hp18 [pR (some 43)] (fun r h' => r = none ∧ h' = hp19) := by
  refine Ct.of (L := [some (pR (some 43))]) rfl rfl (Nat.le_of_ble_eq_true rfl) rfl ?_
  refine J_aload_n dX0_init_0 rfl ?_
  refine J_obj dX0_init_1 (lw_inG 233 (by decide +kernel) (by decide +kernel)) (lw_inG 134 (by decide +kernel) (by decide +kernel)) (lw_inG 135 (by decide +kernel) (by decide +kernel)) (Nat.le_of_ble_eq_true rfl) (Nat.le_of_ble_eq_true rfl) ?_
  exact J_vreturn dX0_init_4 rfl ⟨rfl, rfl⟩
def hp20 : PH := (zc (sR hp19 10 (nI 4).toNatClampNeg (some 43)) 44)
def hp21 : PH := hp20
theorem ci10_X0_init : Ct mX0_init (SHF.take 45) (SHF.take 45) hp20 [pR (some 44)] (fun r h' => r = none ∧ h' = hp21) := by
  refine Ct.of (L := [some (pR (some 44))]) rfl rfl (Nat.le_of_ble_eq_true rfl) rfl ?_
  refine J_aload_n dX0_init_0 rfl ?_
  refine J_obj dX0_init_1 (lw_inG 233 (by decide +kernel) (by decide +kernel)) (lw_inG 134 (by decide +kernel) (by decide +kernel)) (lw_inG 135 (by decide +kernel) (by decide +kernel)) (Nat.le_of_ble_eq_true rfl) (Nat.le_of_ble_eq_true rfl) ?_
  exact J_vreturn dX0_init_4 rfl ⟨rfl, rfl⟩
def hp22 : PH := (sR hp21 10 (nI 5).toNatClampNeg (some 44))
def hp23 : PH := (sI (sI (sI (sI (sI (sI (sI (sI hp22 2 0 (nI 4)) 2 1 (nI 40)) 2 2 (nI 0)) 2 3 (nI 0)) 2 4 (nI 0)) 2 5 (nI 0)) 2 6 (nI 0)) 2 7 (nI 0))
theorem ci11_X4_clear : Ct mX4_clear (SHF.take 45) (SHF.take 45) hp22 [pR (some 2)] (fun r h' => r = none ∧ h' = hp23) := by
  refine Ct.of (L := [some (pR (some 2))]) rfl rfl (Nat.le_of_ble_eq_true rfl) rfl ?_
  refine J_aload_n dX4_clear_0 rfl ?_
  refine J_iconstN (n := 4) dX4_clear_1 ?_
  refine J_putI dX4_clear_2 fX4_37 (TK_at s2 (by decide)) rfl rfl rfl (fun _ _ => rfl) ?_
  refine J_aload_n dX4_clear_5 rfl ?_
  refine J_bipush (x := nI 40) dX4_clear_6 (by decide) ?_
  refine J_putI dX4_clear_8 fX4_41 (TK_at s2 (by decide)) rfl rfl rfl (fun _ _ => rfl) ?_
  refine J_aload_n dX4_clear_11 rfl ?_
  refine J_iconstN (n := 0) dX4_clear_12 ?_
  refine J_putI dX4_clear_13 fX4_44 (TK_at s2 (by decide)) rfl rfl rfl (fun _ _ => rfl) ?_
  refine J_aload_n dX4_clear_16 rfl ?_
  refine J_iconstN (n := 0) dX4_clear_17 ?_
  refine J_putI dX4_clear_18 fX4_47 (TK_at s2 (by decide)) rfl rfl rfl (fun _ _ => rfl) ?_
  refine J_aload_n dX4_clear_21 rfl ?_
  refine J_iconstN (n := 0) dX4_clear_22 ?_
  refine J_putI dX4_clear_23 fX4_50 (TK_at s2 (by decide)) rfl rfl rfl (fun _ _ => rfl) ?_
  refine J_aload_n dX4_clear_26 rfl ?_
  refine J_iconstN (n := 0) dX4_clear_27 ?_
  refine J_putI dX4_clear_28 fX4_53 (TK_at s2 (by decide)) rfl rfl rfl (fun _ _ => rfl) ?_
  refine J_aload_n dX4_clear_31 rfl ?_
  refine J_iconstN (n := 0) dX4_clear_32 ?_
  refine J_putI dX4_clear_33 fX4_56 (TK_at s2 (by decide)) rfl rfl rfl (fun _ _ => rfl) ?_
  refine J_aload_n dX4_clear_36 rfl ?_
  refine J_iconstN (n := 0) dX4_clear_37 ?_
  refine J_putI dX4_clear_38 fX4_60 (TK_at s2 (by decide)) rfl rfl rfl (fun _ _ => rfl) ?_
  exact J_vreturn dX4_clear_41 rfl ⟨rfl, rfl⟩
def hp24 : PH := hp23
theorem ci12_X4_init : Ct mX4_init (SHF.take 3) (SHF.take 45) hp1 [pR (some 2)] (fun r h' => r = none ∧ h' = hp24) := by
  refine Ct.of (L := [some (pR (some 2)), none]) rfl rfl (Nat.le_of_ble_eq_true rfl) rfl ?_
  refine J_aload_n dX4_init_0 rfl ?_
  refine J_obj dX4_init_1 (lw_inG 141 (by decide +kernel) (by decide +kernel)) (lw_inG 134 (by decide +kernel) (by decide +kernel)) (lw_inG 135 (by decide +kernel) (by decide +kernel)) (Nat.le_of_ble_eq_true rfl) (Nat.le_of_ble_eq_true rfl) ?_
  refine J_aload_n dX4_init_4 rfl ?_
  refine J_iconstN (n := 4) dX4_init_5 ?_
  refine J_newa (kd := 3) (n := 3) (N := 4) dX4_init_6 (by decide) rfl (lw_inG 226 (by decide +kernel) (by decide +kernel)) (by decide) s3 ⟨⟨by decide +kernel, by decide +kernel⟩, by decide +kernel, by decide +kernel⟩ ?_
  refine J_putFR dX4_init_8 fX4_9 (TK_at s2 (by decide)) rfl rfl rfl (Or.inr ⟨_, rfl⟩) ?_
  refine J_aload_n dX4_init_11 rfl ?_
  refine J_iconstN (n := 4) dX4_init_12 ?_
  refine J_iconstN (n := 3) dX4_init_13 ?_
  refine J_mna (kd := 7) (kr := 0) (n := 4) (N := 4) (K := 3) (ty := .int) dX4_init_14 (by decide) (lw_inG 142 (by decide +kernel) (by decide +kernel)) (by decide) (lw_inG 227 (by decide +kernel) (by decide +kernel)) (by decide) (by decide) (by decide) s4 (by decide) ⟨⟨by decide +kernel, by decide +kernel⟩, by decide +kernel, by decide +kernel⟩ ?_
  refine J_putFR dX4_init_18 fX4_17 (TK_at s2 (by decide)) rfl rfl rfl (Or.inr ⟨_, rfl⟩) ?_
  refine J_aload_n dX4_init_21 rfl ?_
  refine J_iconstN (n := 4) dX4_init_22 ?_
  refine J_newq (kd := 4) (n := 9) (N := 4) (Cn := "LastBoat$Thing") dX4_init_23 (by decide) rfl (lw_inG 144 (by decide +kernel) (by decide +kernel)) (by decide) (by decide) s9 ⟨⟨by decide +kernel, by decide +kernel⟩, by decide +kernel, by decide +kernel⟩ ?_
  refine J_putFR dX4_init_26 fX4_22 (TK_at s2 (by decide)) rfl rfl rfl (Or.inr ⟨_, rfl⟩) ?_
  refine J_aload_n dX4_init_29 rfl ?_
  refine J_bipush (x := nI 6) dX4_init_30 (by decide) ?_
  refine J_newq (kd := 5) (n := 10) (N := 6) (Cn := "LastBoat$Family") dX4_init_32 (by decide) rfl (lw_inG 146 (by decide +kernel) (by decide +kernel)) (by decide) (by decide) s10 ⟨⟨by decide +kernel, by decide +kernel⟩, by decide +kernel, by decide +kernel⟩ ?_
  refine J_putFR dX4_init_35 fX4_28 (TK_at s2 (by decide)) rfl rfl rfl (Or.inr ⟨_, rfl⟩) ?_
  refine J_iconstN (n := 0) dX4_init_38 ?_
  refine J_istore_n (L' := [some (pR (some 2)), some (pI (nI 0))]) dX4_init_39 (by decide) rfl ?_
  refine J_iload_n dX4_init_40 rfl ?_
  refine J_iconstN (n := 4) dX4_init_41 ?_
  refine J_icmp_geN dX4_init_42 (by decide) (by decide) (fun c0 => absurd c0 (by decide)) (fun c0 => ?_)
  refine J_aload_n dX4_init_45 rfl ?_
  refine J_getR (r := some 9) dX4_init_46 fX4_22 (TK_at s2 (by decide)) (fun _ => rfl) (by decide +kernel) ?_
  refine J_iload_n dX4_init_49 rfl ?_
  refine J_new (ci := 7) (n := 11) dX4_init_50 (lw_inG 144 (by decide +kernel) (by decide +kernel)) (lw_inG 148 (by decide +kernel) (by decide +kernel)) (lw_inG 113 (by decide +kernel) (by decide +kernel)) (by decide) s11 ⟨⟨by decide +kernel, by decide +kernel⟩, by decide +kernel, by decide +kernel⟩ ?_
  refine J_dup dX4_init_53 rfl ?_
  show J _ _ _ _ _ _ _ _ hp2
  refine J_callIN (c := 11) (as := []) (st := [pR (some 11), pI (nI 0), pR (some 9)]) dX4_init_54 lX4_32 okX7_init rfl iX7_init rfl rfl (Nat.le_of_ble_eq_true rfl) ⟨Nat.le_of_ble_eq_true rfl, Nat.le_of_ble_eq_true rfl⟩ ⟨⟨by decide +kernel, by decide +kernel⟩, ⟨by decide +kernel, by decide +kernel⟩, by decide +kernel, by decide +kernel⟩ ci1_X7_init (fun r h' q => ?_)
  obtain ⟨rfl, rfl⟩ := q
  show J _ _ _ _ _ _ [pR (some 11), pI (nI 0), pR (some 9)] _ _
  refine J_aast (kd := 4) (ci := 7) dX4_init_57 (by decide) (by decide) rfl (TK_at s9 (by decide)) (TK_at s11 (by decide)) (by unfold vp_in; decide) ?_
  refine J_iinc (y := nI 1) (L' := [some (pR (some 2)), some (pI (nI 1))]) dX4_init_58 rfl (by decide) (by decide) rfl ?_
  refine J_goto dX4_init_61 ?_
  refine J_iload_n dX4_init_40 rfl ?_
  refine J_iconstN (n := 4) dX4_init_41 ?_
  refine J_icmp_geN dX4_init_42 (by decide) (by decide) (fun c0 => absurd c0 (by decide)) (fun c0 => ?_)
  refine J_aload_n dX4_init_45 rfl ?_
  refine J_getR (r := some 9) dX4_init_46 fX4_22 (TK_at s2 (by decide)) (fun _ => rfl) (by decide +kernel) ?_
  refine J_iload_n dX4_init_49 rfl ?_
  refine J_new (ci := 7) (n := 18) dX4_init_50 (lw_inG 144 (by decide +kernel) (by decide +kernel)) (lw_inG 148 (by decide +kernel) (by decide +kernel)) (lw_inG 113 (by decide +kernel) (by decide +kernel)) (by decide) s18 ⟨⟨by decide +kernel, by decide +kernel⟩, by decide +kernel, by decide +kernel⟩ ?_
  refine J_dup dX4_init_53 rfl ?_
  show J _ _ _ _ _ _ _ _ hp4
  refine J_callIN (c := 18) (as := []) (st := [pR (some 18), pI (nI 1), pR (some 9)]) dX4_init_54 lX4_32 okX7_init rfl iX7_init rfl rfl (Nat.le_of_ble_eq_true rfl) ⟨Nat.le_of_ble_eq_true rfl, Nat.le_of_ble_eq_true rfl⟩ ⟨⟨by decide +kernel, by decide +kernel⟩, ⟨by decide +kernel, by decide +kernel⟩, by decide +kernel, by decide +kernel⟩ ci2_X7_init (fun r h' q => ?_)
  obtain ⟨rfl, rfl⟩ := q
  show J _ _ _ _ _ _ [pR (some 18), pI (nI 1), pR (some 9)] _ _
  refine J_aast (kd := 4) (ci := 7) dX4_init_57 (by decide) (by decide) rfl (TK_at s9 (by decide)) (TK_at s18 (by decide)) (by unfold vp_in; decide) ?_
  refine J_iinc (y := nI 2) (L' := [some (pR (some 2)), some (pI (nI 2))]) dX4_init_58 rfl (by decide) (by decide) rfl ?_
  refine J_goto dX4_init_61 ?_
  refine J_iload_n dX4_init_40 rfl ?_
  refine J_iconstN (n := 4) dX4_init_41 ?_
  refine J_icmp_geN dX4_init_42 (by decide) (by decide) (fun c0 => absurd c0 (by decide)) (fun c0 => ?_)
  refine J_aload_n dX4_init_45 rfl ?_
  refine J_getR (r := some 9) dX4_init_46 fX4_22 (TK_at s2 (by decide)) (fun _ => rfl) (by decide +kernel) ?_
  refine J_iload_n dX4_init_49 rfl ?_
  refine J_new (ci := 7) (n := 25) dX4_init_50 (lw_inG 144 (by decide +kernel) (by decide +kernel)) (lw_inG 148 (by decide +kernel) (by decide +kernel)) (lw_inG 113 (by decide +kernel) (by decide +kernel)) (by decide) s25 ⟨⟨by decide +kernel, by decide +kernel⟩, by decide +kernel, by decide +kernel⟩ ?_
  refine J_dup dX4_init_53 rfl ?_
  show J _ _ _ _ _ _ _ _ hp6
  refine J_callIN (c := 25) (as := []) (st := [pR (some 25), pI (nI 2), pR (some 9)]) dX4_init_54 lX4_32 okX7_init rfl iX7_init rfl rfl (Nat.le_of_ble_eq_true rfl) ⟨Nat.le_of_ble_eq_true rfl, Nat.le_of_ble_eq_true rfl⟩ ⟨⟨by decide +kernel, by decide +kernel⟩, ⟨by decide +kernel, by decide +kernel⟩, by decide +kernel, by decide +kernel⟩ ci3_X7_init (fun r h' q => ?_)
  obtain ⟨rfl, rfl⟩ := q
  show J _ _ _ _ _ _ [pR (some 25), pI (nI 2), pR (some 9)] _ _
  refine J_aast (kd := 4) (ci := 7) dX4_init_57 (by decide) (by decide) rfl (TK_at s9 (by decide)) (TK_at s25 (by decide)) (by unfold vp_in; decide) ?_
  refine J_iinc (y := nI 3) (L' := [some (pR (some 2)), some (pI (nI 3))]) dX4_init_58 rfl (by decide) (by decide) rfl ?_
  refine J_goto dX4_init_61 ?_
  refine J_iload_n dX4_init_40 rfl ?_
  refine J_iconstN (n := 4) dX4_init_41 ?_
  refine J_icmp_geN dX4_init_42 (by decide) (by decide) (fun c0 => absurd c0 (by decide)) (fun c0 => ?_)
  refine J_aload_n dX4_init_45 rfl ?_
  refine J_getR (r := some 9) dX4_init_46 fX4_22 (TK_at s2 (by decide)) (fun _ => rfl) (by decide +kernel) ?_
  refine J_iload_n dX4_init_49 rfl ?_
  refine J_new (ci := 7) (n := 32) dX4_init_50 (lw_inG 144 (by decide +kernel) (by decide +kernel)) (lw_inG 148 (by decide +kernel) (by decide +kernel)) (lw_inG 113 (by decide +kernel) (by decide +kernel)) (by decide) s32 ⟨⟨by decide +kernel, by decide +kernel⟩, by decide +kernel, by decide +kernel⟩ ?_
  refine J_dup dX4_init_53 rfl ?_
  show J _ _ _ _ _ _ _ _ hp8
  refine J_callIN (c := 32) (as := []) (st := [pR (some 32), pI (nI 3), pR (some 9)]) dX4_init_54 lX4_32 okX7_init rfl iX7_init rfl rfl (Nat.le_of_ble_eq_true rfl) ⟨Nat.le_of_ble_eq_true rfl, Nat.le_of_ble_eq_true rfl⟩ ⟨⟨by decide +kernel, by decide +kernel⟩, ⟨by decide +kernel, by decide +kernel⟩, by decide +kernel, by decide +kernel⟩ ci4_X7_init (fun r h' q => ?_)
  obtain ⟨rfl, rfl⟩ := q
  show J _ _ _ _ _ _ [pR (some 32), pI (nI 3), pR (some 9)] _ _
  refine J_aast (kd := 4) (ci := 7) dX4_init_57 (by decide) (by decide) rfl (TK_at s9 (by decide)) (TK_at s32 (by decide)) (by unfold vp_in; decide) ?_
  refine J_iinc (y := nI 4) (L' := [some (pR (some 2)), some (pI (nI 4))]) dX4_init_58 rfl (by decide) (by decide) rfl ?_
  refine J_goto dX4_init_61 ?_
  refine J_iload_n dX4_init_40 rfl ?_
  refine J_iconstN (n := 4) dX4_init_41 ?_
  refine J_icmp_geN dX4_init_42 (by decide) (by decide) (fun c0 => ?_) (fun c0 => absurd c0 (by decide))
  refine J_iconstN (n := 0) dX4_init_64 ?_
  refine J_istore_n (L' := [some (pR (some 2)), some (pI (nI 0))]) dX4_init_65 (by decide) rfl ?_
  refine J_iload_n dX4_init_66 rfl ?_
  refine J_bipush (x := nI 6) dX4_init_67 (by decide) ?_
  refine J_icmp_geN dX4_init_69 (by decide) (by decide) (fun c0 => absurd c0 (by decide)) (fun c0 => ?_)
  refine J_aload_n dX4_init_72 rfl ?_
  refine J_getR (r := some 10) dX4_init_73 fX4_28 (TK_at s2 (by decide)) (fun _ => rfl) (by decide +kernel) ?_
  refine J_iload_n dX4_init_76 rfl ?_
  refine J_new (ci := 0) (n := 39) dX4_init_77 (lw_inG 146 (by decide +kernel) (by decide +kernel)) (lw_inG 229 (by decide +kernel) (by decide +kernel)) (lw_inG 114 (by decide +kernel) (by decide +kernel)) (by decide) s39 ⟨⟨by decide +kernel, by decide +kernel⟩, by decide +kernel, by decide +kernel⟩ ?_
  refine J_dup dX4_init_80 rfl ?_
  show J _ _ _ _ _ _ _ _ hp10
  refine J_callIN (c := 39) (as := []) (st := [pR (some 39), pI (nI 0), pR (some 10)]) dX4_init_81 lX4_33 okX0_init rfl iX0_init rfl rfl (Nat.le_of_ble_eq_true rfl) ⟨Nat.le_of_ble_eq_true rfl, Nat.le_of_ble_eq_true rfl⟩ ⟨⟨by decide +kernel, by decide +kernel⟩, ⟨by decide +kernel, by decide +kernel⟩, by decide +kernel, by decide +kernel⟩ ci5_X0_init (fun r h' q => ?_)
  obtain ⟨rfl, rfl⟩ := q
  show J _ _ _ _ _ _ [pR (some 39), pI (nI 0), pR (some 10)] _ _
  refine J_aast (kd := 5) (ci := 0) dX4_init_84 (by decide) (by decide) rfl (TK_at s10 (by decide)) (TK_at s39 (by decide)) (by unfold vp_in; decide) ?_
  refine J_iinc (y := nI 1) (L' := [some (pR (some 2)), some (pI (nI 1))]) dX4_init_85 rfl (by decide) (by decide) rfl ?_
  refine J_goto dX4_init_88 ?_
  refine J_iload_n dX4_init_66 rfl ?_
  refine J_bipush (x := nI 6) dX4_init_67 (by decide) ?_
  refine J_icmp_geN dX4_init_69 (by decide) (by decide) (fun c0 => absurd c0 (by decide)) (fun c0 => ?_)
  refine J_aload_n dX4_init_72 rfl ?_
  refine J_getR (r := some 10) dX4_init_73 fX4_28 (TK_at s2 (by decide)) (fun _ => rfl) (by decide +kernel) ?_
  refine J_iload_n dX4_init_76 rfl ?_
  refine J_new (ci := 0) (n := 40) dX4_init_77 (lw_inG 146 (by decide +kernel) (by decide +kernel)) (lw_inG 229 (by decide +kernel) (by decide +kernel)) (lw_inG 114 (by decide +kernel) (by decide +kernel)) (by decide) s40 ⟨⟨by decide +kernel, by decide +kernel⟩, by decide +kernel, by decide +kernel⟩ ?_
  refine J_dup dX4_init_80 rfl ?_
  show J _ _ _ _ _ _ _ _ hp12
  refine J_callIN (c := 40) (as := []) (st := [pR (some 40), pI (nI 1), pR (some 10)]) dX4_init_81 lX4_33 okX0_init rfl iX0_init rfl rfl (Nat.le_of_ble_eq_true rfl) ⟨Nat.le_of_ble_eq_true rfl, Nat.le_of_ble_eq_true rfl⟩ ⟨⟨by decide +kernel, by decide +kernel⟩, ⟨by decide +kernel, by decide +kernel⟩, by decide +kernel, by decide +kernel⟩ ci6_X0_init (fun r h' q => ?_)
  obtain ⟨rfl, rfl⟩ := q
  show J _ _ _ _ _ _ [pR (some 40), pI (nI 1), pR (some 10)] _ _
  refine J_aast (kd := 5) (ci := 0) dX4_init_84 (by decide) (by decide) rfl (TK_at s10 (by decide)) (TK_at s40 (by decide)) (by unfold vp_in; decide) ?_
  refine J_iinc (y := nI 2) (L' := [some (pR (some 2)), some (pI (nI 2))]) dX4_init_85 rfl (by decide) (by decide) rfl ?_
  refine J_goto dX4_init_88 ?_
  refine J_iload_n dX4_init_66 rfl ?_
  refine J_bipush (x := nI 6) dX4_init_67 (by decide) ?_
  refine J_icmp_geN dX4_init_69 (by decide) (by decide) (fun c0 => absurd c0 (by decide)) (fun c0 => ?_)
  refine J_aload_n dX4_init_72 rfl ?_
  refine J_getR (r := some 10) dX4_init_73 fX4_28 (TK_at s2 (by decide)) (fun _ => rfl) (by decide +kernel) ?_
  refine J_iload_n dX4_init_76 rfl ?_
  refine J_new (ci := 0) (n := 41) dX4_init_77 (lw_inG 146 (by decide +kernel) (by decide +kernel)) (lw_inG 229 (by decide +kernel) (by decide +kernel)) (lw_inG 114 (by decide +kernel) (by decide +kernel)) (by decide) s41 ⟨⟨by decide +kernel, by decide +kernel⟩, by decide +kernel, by decide +kernel⟩ ?_
  refine J_dup dX4_init_80 rfl ?_
  show J _ _ _ _ _ _ _ _ hp14
  refine J_callIN (c := 41) (as := []) (st := [pR (some 41), pI (nI 2), pR (some 10)]) dX4_init_81 lX4_33 okX0_init rfl iX0_init rfl rfl (Nat.le_of_ble_eq_true rfl) ⟨Nat.le_of_ble_eq_true rfl, Nat.le_of_ble_eq_true rfl⟩ ⟨⟨by decide +kernel, by decide +kernel⟩, ⟨by decide +kernel, by decide +kernel⟩, by decide +kernel, by decide +kernel⟩ ci7_X0_init (fun r h' q => ?_)
  obtain ⟨rfl, rfl⟩ := q
  show J _ _ _ _ _ _ [pR (some 41), pI (nI 2), pR (some 10)] _ _
  refine J_aast (kd := 5) (ci := 0) dX4_init_84 (by decide) (by decide) rfl (TK_at s10 (by decide)) (TK_at s41 (by decide)) (by unfold vp_in; decide) ?_
  refine J_iinc (y := nI 3) (L' := [some (pR (some 2)), some (pI (nI 3))]) dX4_init_85 rfl (by decide) (by decide) rfl ?_
  refine J_goto dX4_init_88 ?_
  refine J_iload_n dX4_init_66 rfl ?_
  refine J_bipush (x := nI 6) dX4_init_67 (by decide) ?_
  refine J_icmp_geN dX4_init_69 (by decide) (by decide) (fun c0 => absurd c0 (by decide)) (fun c0 => ?_)
  refine J_aload_n dX4_init_72 rfl ?_
  refine J_getR (r := some 10) dX4_init_73 fX4_28 (TK_at s2 (by decide)) (fun _ => rfl) (by decide +kernel) ?_
  refine J_iload_n dX4_init_76 rfl ?_
  refine J_new (ci := 0) (n := 42) dX4_init_77 (lw_inG 146 (by decide +kernel) (by decide +kernel)) (lw_inG 229 (by decide +kernel) (by decide +kernel)) (lw_inG 114 (by decide +kernel) (by decide +kernel)) (by decide) s42 ⟨⟨by decide +kernel, by decide +kernel⟩, by decide +kernel, by decide +kernel⟩ ?_
  refine J_dup dX4_init_80 rfl ?_
  show J _ _ _ _ _ _ _ _ hp16
  refine J_callIN (c := 42) (as := []) (st := [pR (some 42), pI (nI 3), pR (some 10)]) dX4_init_81 lX4_33 okX0_init rfl iX0_init rfl rfl (Nat.le_of_ble_eq_true rfl) ⟨Nat.le_of_ble_eq_true rfl, Nat.le_of_ble_eq_true rfl⟩ ⟨⟨by decide +kernel, by decide +kernel⟩, ⟨by decide +kernel, by decide +kernel⟩, by decide +kernel, by decide +kernel⟩ ci8_X0_init (fun r h' q => ?_)
  obtain ⟨rfl, rfl⟩ := q
  show J _ _ _ _ _ _ [pR (some 42), pI (nI 3), pR (some 10)] _ _
  refine J_aast (kd := 5) (ci := 0) dX4_init_84 (by decide) (by decide) rfl (TK_at s10 (by decide)) (TK_at s42 (by decide)) (by unfold vp_in; decide) ?_
  refine J_iinc (y := nI 4) (L' := [some (pR (some 2)), some (pI (nI 4))]) dX4_init_85 rfl (by decide) (by decide) rfl ?_
  refine J_goto dX4_init_88 ?_
  refine J_iload_n dX4_init_66 rfl ?_
  refine J_bipush (x := nI 6) dX4_init_67 (by decide) ?_
  refine J_icmp_geN dX4_init_69 (by decide) (by decide) (fun c0 => absurd c0 (by decide)) (fun c0 => ?_)
  refine J_aload_n dX4_init_72 rfl ?_
  refine J_getR (r := some 10) dX4_init_73 fX4_28 (TK_at s2 (by decide)) (fun _ => rfl) (by decide +kernel) ?_
  refine J_iload_n dX4_init_76 rfl ?_
  refine J_new (ci := 0) (n := 43) dX4_init_77 (lw_inG 146 (by decide +kernel) (by decide +kernel)) (lw_inG 229 (by decide +kernel) (by decide +kernel)) (lw_inG 114 (by decide +kernel) (by decide +kernel)) (by decide) s43 ⟨⟨by decide +kernel, by decide +kernel⟩, by decide +kernel, by decide +kernel⟩ ?_
  refine J_dup dX4_init_80 rfl ?_
  show J _ _ _ _ _ _ _ _ hp18
  refine J_callIN (c := 43) (as := []) (st := [pR (some 43), pI (nI 4), pR (some 10)]) dX4_init_81 lX4_33 okX0_init rfl iX0_init rfl rfl (Nat.le_of_ble_eq_true rfl) ⟨Nat.le_of_ble_eq_true rfl, Nat.le_of_ble_eq_true rfl⟩ ⟨⟨by decide +kernel, by decide +kernel⟩, ⟨by decide +kernel, by decide +kernel⟩, by decide +kernel, by decide +kernel⟩ ci9_X0_init (fun r h' q => ?_)
  obtain ⟨rfl, rfl⟩ := q
  show J _ _ _ _ _ _ [pR (some 43), pI (nI 4), pR (some 10)] _ _
  refine J_aast (kd := 5) (ci := 0) dX4_init_84 (by decide) (by decide) rfl (TK_at s10 (by decide)) (TK_at s43 (by decide)) (by unfold vp_in; decide) ?_
  refine J_iinc (y := nI 5) (L' := [some (pR (some 2)), some (pI (nI 5))]) dX4_init_85 rfl (by decide) (by decide) rfl ?_
  refine J_goto dX4_init_88 ?_
  refine J_iload_n dX4_init_66 rfl ?_
  refine J_bipush (x := nI 6) dX4_init_67 (by decide) ?_
  refine J_icmp_geN dX4_init_69 (by decide) (by decide) (fun c0 => absurd c0 (by decide)) (fun c0 => ?_)
  refine J_aload_n dX4_init_72 rfl ?_
  refine J_getR (r := some 10) dX4_init_73 fX4_28 (TK_at s2 (by decide)) (fun _ => rfl) (by decide +kernel) ?_
  refine J_iload_n dX4_init_76 rfl ?_
  refine J_new (ci := 0) (n := 44) dX4_init_77 (lw_inG 146 (by decide +kernel) (by decide +kernel)) (lw_inG 229 (by decide +kernel) (by decide +kernel)) (lw_inG 114 (by decide +kernel) (by decide +kernel)) (by decide) s44 ⟨⟨by decide +kernel, by decide +kernel⟩, by decide +kernel, by decide +kernel⟩ ?_
  refine J_dup dX4_init_80 rfl ?_
  show J _ _ _ _ _ _ _ _ hp20
  refine J_callIN (c := 44) (as := []) (st := [pR (some 44), pI (nI 5), pR (some 10)]) dX4_init_81 lX4_33 okX0_init rfl iX0_init rfl rfl (Nat.le_of_ble_eq_true rfl) ⟨Nat.le_of_ble_eq_true rfl, Nat.le_of_ble_eq_true rfl⟩ ⟨⟨by decide +kernel, by decide +kernel⟩, ⟨by decide +kernel, by decide +kernel⟩, by decide +kernel, by decide +kernel⟩ ci10_X0_init (fun r h' q => ?_)
  obtain ⟨rfl, rfl⟩ := q
  show J _ _ _ _ _ _ [pR (some 44), pI (nI 5), pR (some 10)] _ _
  refine J_aast (kd := 5) (ci := 0) dX4_init_84 (by decide) (by decide) rfl (TK_at s10 (by decide)) (TK_at s44 (by decide)) (by unfold vp_in; decide) ?_
  refine J_iinc (y := nI 6) (L' := [some (pR (some 2)), some (pI (nI 6))]) dX4_init_85 rfl (by decide) (by decide) rfl ?_
  refine J_goto dX4_init_88 ?_
  refine J_iload_n dX4_init_66 rfl ?_
  refine J_bipush (x := nI 6) dX4_init_67 (by decide) ?_
  refine J_icmp_geN dX4_init_69 (by decide) (by decide) (fun c0 => ?_) (fun c0 => absurd c0 (by decide))
  refine J_aload_n dX4_init_91 rfl ?_
  show J _ _ _ _ _ _ _ _ hp22
  refine J_callV (ci := 4) (c := 2) (as := []) (st := []) dX4_init_92 lX4_34 okX4_clear vX4_clear (TK_at s2 (by decide)) (by decide) rfl rfl rfl (Nat.le_of_ble_eq_true rfl) ⟨Nat.le_of_ble_eq_true rfl, Nat.le_of_ble_eq_true rfl⟩ ⟨⟨by decide +kernel, by decide +kernel⟩, ⟨by decide +kernel, by decide +kernel⟩, by decide +kernel, by decide +kernel⟩ ci11_X4_clear (fun r h' q => ?_)
  obtain ⟨rfl, rfl⟩ := q
  show J _ _ _ _ _ _ [] _ _
  exact J_vreturn dX4_init_95 rfl ⟨rfl, rfl⟩
def hp25 : PH := (zc (sR hp24 0 2 (some 2)) 45)
def hp26 : PH := (zc (sR (zc (sR (zc (sR (mz (sR (zc hp25 46) 45 8 (some 46)) 47 4) 45 9 (some 47)) 52) 45 10 (some 52)) 53) 45 11 (some 53)) 54)
def hp27 : PH := (sR (zc (sR (mz hp26 55 4) 54 10 (some 55)) 60) 54 11 (some 60))
theorem ci13_X7_init : Ct mX7_init (SHF.take 55) (SHF.take 61) hp26 [pR (some 54)] (fun r h' => r = none ∧ h' = hp27) := by
  refine Ct.of (L := [some (pR (some 54))]) rfl rfl (Nat.le_of_ble_eq_true rfl) rfl ?_
  refine J_aload_n dX7_init_0 rfl ?_
  refine J_obj dX7_init_1 (lw_inG 152 (by decide +kernel) (by decide +kernel)) (lw_inG 134 (by decide +kernel) (by decide +kernel)) (lw_inG 135 (by decide +kernel) (by decide +kernel)) (Nat.le_of_ble_eq_true rfl) (Nat.le_of_ble_eq_true rfl) ?_
  refine J_aload_n dX7_init_4 rfl ?_
  refine J_iconstN (n := 4) dX7_init_5 ?_
  refine J_iconstN (n := 5) dX7_init_6 ?_
  refine J_mna (kd := 7) (kr := 0) (n := 55) (N := 4) (K := 5) (ty := .int) dX7_init_7 (by decide) (lw_inG 153 (by decide +kernel) (by decide +kernel)) (by decide) (lw_inG 227 (by decide +kernel) (by decide +kernel)) (by decide) (by decide) (by decide) s55 (by decide) ⟨⟨by decide +kernel, by decide +kernel⟩, by decide +kernel, by decide +kernel⟩ ?_
  refine J_putFR dX7_init_11 fX7_11 (TK_at s54 (by decide)) rfl rfl rfl (Or.inr ⟨_, rfl⟩) ?_
  refine J_aload_n dX7_init_14 rfl ?_
  refine J_iconstN (n := 4) dX7_init_15 ?_
  refine J_newa (kd := 2) (n := 60) (N := 4) dX7_init_16 (by decide) rfl (lw_inG 228 (by decide +kernel) (by decide +kernel)) (by decide) s60 ⟨⟨by decide +kernel, by decide +kernel⟩, by decide +kernel, by decide +kernel⟩ ?_
  refine J_putFR dX7_init_18 fX7_16 (TK_at s54 (by decide)) rfl rfl rfl (Or.inr ⟨_, rfl⟩) ?_
  exact J_vreturn dX7_init_21 rfl ⟨rfl, rfl⟩
def hp28 : PH := (zc (sR hp27 52 (nI 0).toNatClampNeg (some 54)) 61)
def hp29 : PH := (sR (zc (sR (mz hp28 62 4) 61 10 (some 62)) 67) 61 11 (some 67))
theorem ci14_X7_init : Ct mX7_init (SHF.take 62) (SHF.take 68) hp28 [pR (some 61)] (fun r h' => r = none ∧ h' = hp29) := by
  refine Ct.of (L := [some (pR (some 61))]) rfl rfl (Nat.le_of_ble_eq_true rfl) rfl ?_
  refine J_aload_n dX7_init_0 rfl ?_
  refine J_obj dX7_init_1 (lw_inG 152 (by decide +kernel) (by decide +kernel)) (lw_inG 134 (by decide +kernel) (by decide +kernel)) (lw_inG 135 (by decide +kernel) (by decide +kernel)) (Nat.le_of_ble_eq_true rfl) (Nat.le_of_ble_eq_true rfl) ?_
  refine J_aload_n dX7_init_4 rfl ?_
  refine J_iconstN (n := 4) dX7_init_5 ?_
  refine J_iconstN (n := 5) dX7_init_6 ?_
  refine J_mna (kd := 7) (kr := 0) (n := 62) (N := 4) (K := 5) (ty := .int) dX7_init_7 (by decide) (lw_inG 153 (by decide +kernel) (by decide +kernel)) (by decide) (lw_inG 227 (by decide +kernel) (by decide +kernel)) (by decide) (by decide) (by decide) s62 (by decide) ⟨⟨by decide +kernel, by decide +kernel⟩, by decide +kernel, by decide +kernel⟩ ?_
  refine J_putFR dX7_init_11 fX7_11 (TK_at s61 (by decide)) rfl rfl rfl (Or.inr ⟨_, rfl⟩) ?_
  refine J_aload_n dX7_init_14 rfl ?_
  refine J_iconstN (n := 4) dX7_init_15 ?_
  refine J_newa (kd := 2) (n := 67) (N := 4) dX7_init_16 (by decide) rfl (lw_inG 228 (by decide +kernel) (by decide +kernel)) (by decide) s67 ⟨⟨by decide +kernel, by decide +kernel⟩, by decide +kernel, by decide +kernel⟩ ?_
  refine J_putFR dX7_init_18 fX7_16 (TK_at s61 (by decide)) rfl rfl rfl (Or.inr ⟨_, rfl⟩) ?_
  exact J_vreturn dX7_init_21 rfl ⟨rfl, rfl⟩
def hp30 : PH := (zc (sR hp29 52 (nI 1).toNatClampNeg (some 61)) 68)
def hp31 : PH := (sR (zc (sR (mz hp30 69 4) 68 10 (some 69)) 74) 68 11 (some 74))
theorem ci15_X7_init : Ct mX7_init (SHF.take 69) (SHF.take 75) hp30 [pR (some 68)] (fun r h' => r = none ∧ h' = hp31) := by
  refine Ct.of (L := [some (pR (some 68))]) rfl rfl (Nat.le_of_ble_eq_true rfl) rfl ?_
  refine J_aload_n dX7_init_0 rfl ?_
  refine J_obj dX7_init_1 (lw_inG 152 (by decide +kernel) (by decide +kernel)) (lw_inG 134 (by decide +kernel) (by decide +kernel)) (lw_inG 135 (by decide +kernel) (by decide +kernel)) (Nat.le_of_ble_eq_true rfl) (Nat.le_of_ble_eq_true rfl) ?_
  refine J_aload_n dX7_init_4 rfl ?_
  refine J_iconstN (n := 4) dX7_init_5 ?_
  refine J_iconstN (n := 5) dX7_init_6 ?_
  refine J_mna (kd := 7) (kr := 0) (n := 69) (N := 4) (K := 5) (ty := .int) dX7_init_7 (by decide) (lw_inG 153 (by decide +kernel) (by decide +kernel)) (by decide) (lw_inG 227 (by decide +kernel) (by decide +kernel)) (by decide) (by decide) (by decide) s69 (by decide) ⟨⟨by decide +kernel, by decide +kernel⟩, by decide +kernel, by decide +kernel⟩ ?_
  refine J_putFR dX7_init_11 fX7_11 (TK_at s68 (by decide)) rfl rfl rfl (Or.inr ⟨_, rfl⟩) ?_
  refine J_aload_n dX7_init_14 rfl ?_
  refine J_iconstN (n := 4) dX7_init_15 ?_
  refine J_newa (kd := 2) (n := 74) (N := 4) dX7_init_16 (by decide) rfl (lw_inG 228 (by decide +kernel) (by decide +kernel)) (by decide) s74 ⟨⟨by decide +kernel, by decide +kernel⟩, by decide +kernel, by decide +kernel⟩ ?_
  refine J_putFR dX7_init_18 fX7_16 (TK_at s68 (by decide)) rfl rfl rfl (Or.inr ⟨_, rfl⟩) ?_
  exact J_vreturn dX7_init_21 rfl ⟨rfl, rfl⟩
def hp32 : PH := (zc (sR hp31 52 (nI 2).toNatClampNeg (some 68)) 75)
def hp33 : PH := (sR (zc (sR (mz hp32 76 4) 75 10 (some 76)) 81) 75 11 (some 81))
theorem ci16_X7_init : Ct mX7_init (SHF.take 76) (SHF.take 82) hp32 [pR (some 75)] (fun r h' => r = none ∧ h' = hp33) := by
  refine Ct.of (L := [some (pR (some 75))]) rfl rfl (Nat.le_of_ble_eq_true rfl) rfl ?_
  refine J_aload_n dX7_init_0 rfl ?_
  refine J_obj dX7_init_1 (lw_inG 152 (by decide +kernel) (by decide +kernel)) (lw_inG 134 (by decide +kernel) (by decide +kernel)) (lw_inG 135 (by decide +kernel) (by decide +kernel)) (Nat.le_of_ble_eq_true rfl) (Nat.le_of_ble_eq_true rfl) ?_
  refine J_aload_n dX7_init_4 rfl ?_
  refine J_iconstN (n := 4) dX7_init_5 ?_
  refine J_iconstN (n := 5) dX7_init_6 ?_
  refine J_mna (kd := 7) (kr := 0) (n := 76) (N := 4) (K := 5) (ty := .int) dX7_init_7 (by decide) (lw_inG 153 (by decide +kernel) (by decide +kernel)) (by decide) (lw_inG 227 (by decide +kernel) (by decide +kernel)) (by decide) (by decide) (by decide) s76 (by decide) ⟨⟨by decide +kernel, by decide +kernel⟩, by decide +kernel, by decide +kernel⟩ ?_
  refine J_putFR dX7_init_11 fX7_11 (TK_at s75 (by decide)) rfl rfl rfl (Or.inr ⟨_, rfl⟩) ?_
  refine J_aload_n dX7_init_14 rfl ?_
  refine J_iconstN (n := 4) dX7_init_15 ?_
  refine J_newa (kd := 2) (n := 81) (N := 4) dX7_init_16 (by decide) rfl (lw_inG 228 (by decide +kernel) (by decide +kernel)) (by decide) s81 ⟨⟨by decide +kernel, by decide +kernel⟩, by decide +kernel, by decide +kernel⟩ ?_
  refine J_putFR dX7_init_18 fX7_16 (TK_at s75 (by decide)) rfl rfl rfl (Or.inr ⟨_, rfl⟩) ?_
  exact J_vreturn dX7_init_21 rfl ⟨rfl, rfl⟩
def hp34 : PH := (zc (sR hp33 52 (nI 3).toNatClampNeg (some 75)) 82)
def hp35 : PH := hp34
theorem ci17_X0_init : Ct mX0_init (SHF.take 83) (SHF.take 83) hp34 [pR (some 82)] (fun r h' => r = none ∧ h' = hp35) := by
  refine Ct.of (L := [some (pR (some 82))]) rfl rfl (Nat.le_of_ble_eq_true rfl) rfl ?_
  refine J_aload_n dX0_init_0 rfl ?_
  refine J_obj dX0_init_1 (lw_inG 233 (by decide +kernel) (by decide +kernel)) (lw_inG 134 (by decide +kernel) (by decide +kernel)) (lw_inG 135 (by decide +kernel) (by decide +kernel)) (Nat.le_of_ble_eq_true rfl) (Nat.le_of_ble_eq_true rfl) ?_
  exact J_vreturn dX0_init_4 rfl ⟨rfl, rfl⟩
def hp36 : PH := (zc (sR hp35 53 (nI 0).toNatClampNeg (some 82)) 83)
def hp37 : PH := hp36
theorem ci18_X0_init : Ct mX0_init (SHF.take 84) (SHF.take 84) hp36 [pR (some 83)] (fun r h' => r = none ∧ h' = hp37) := by
  refine Ct.of (L := [some (pR (some 83))]) rfl rfl (Nat.le_of_ble_eq_true rfl) rfl ?_
  refine J_aload_n dX0_init_0 rfl ?_
  refine J_obj dX0_init_1 (lw_inG 233 (by decide +kernel) (by decide +kernel)) (lw_inG 134 (by decide +kernel) (by decide +kernel)) (lw_inG 135 (by decide +kernel) (by decide +kernel)) (Nat.le_of_ble_eq_true rfl) (Nat.le_of_ble_eq_true rfl) ?_
  exact J_vreturn dX0_init_4 rfl ⟨rfl, rfl⟩
def hp38 : PH := (zc (sR hp37 53 (nI 1).toNatClampNeg (some 83)) 84)
def hp39 : PH := hp38
theorem ci19_X0_init : Ct mX0_init (SHF.take 85) (SHF.take 85) hp38 [pR (some 84)] (fun r h' => r = none ∧ h' = hp39) := by
  refine Ct.of (L := [some (pR (some 84))]) rfl rfl (Nat.le_of_ble_eq_true rfl) rfl ?_
  refine J_aload_n dX0_init_0 rfl ?_
  refine J_obj dX0_init_1 (lw_inG 233 (by decide +kernel) (by decide +kernel)) (lw_inG 134 (by decide +kernel) (by decide +kernel)) (lw_inG 135 (by decide +kernel) (by decide +kernel)) (Nat.le_of_ble_eq_true rfl) (Nat.le_of_ble_eq_true rfl) ?_
  exact J_vreturn dX0_init_4 rfl ⟨rfl, rfl⟩
def hp40 : PH := (zc (sR hp39 53 (nI 2).toNatClampNeg (some 84)) 85)
def hp41 : PH := hp40
theorem ci20_X0_init : Ct mX0_init (SHF.take 86) (SHF.take 86) hp40 [pR (some 85)] (fun r h' => r = none ∧ h' = hp41) := by
  refine Ct.of (L := [some (pR (some 85))]) rfl rfl (Nat.le_of_ble_eq_true rfl) rfl ?_
  refine J_aload_n dX0_init_0 rfl ?_
  refine J_obj dX0_init_1 (lw_inG 233 (by decide +kernel) (by decide +kernel)) (lw_inG 134 (by decide +kernel) (by decide +kernel)) (lw_inG 135 (by decide +kernel) (by decide +kernel)) (Nat.le_of_ble_eq_true rfl) (Nat.le_of_ble_eq_true rfl) ?_
  exact J_vreturn dX0_init_4 rfl ⟨rfl, rfl⟩
def hp42 : PH := (zc (sR hp41 53 (nI 3).toNatClampNeg (some 85)) 86)
def hp43 : PH := hp42
theorem ci21_X0_init : Ct mX0_init (SHF.take 87) (SHF.take 87) hp42 [pR (some 86)] (fun r h' => r = none ∧ h' = hp43) := by
  refine Ct.of (L := [some (pR (some 86))]) rfl rfl (Nat.le_of_ble_eq_true rfl) rfl ?_
  refine J_aload_n dX0_init_0 rfl ?_
  refine J_obj dX0_init_1 (lw_inG 233 (by decide +kernel) (by decide +kernel)) (lw_inG 134 (by decide +kernel) (by decide +kernel)) (lw_inG 135 (by decide +kernel) (by decide +kernel)) (Nat.le_of_ble_eq_true rfl) (Nat.le_of_ble_eq_true rfl) ?_
  exact J_vreturn dX0_init_4 rfl ⟨rfl, rfl⟩
def hp44 : PH := (zc (sR hp43 53 (nI 4).toNatClampNeg (some 86)) 87)
def hp45 : PH := hp44
theorem ci22_X0_init : Ct mX0_init (SHF.take 88) (SHF.take 88) hp44 [pR (some 87)] (fun r h' => r = none ∧ h' = hp45) := by
  refine Ct.of (L := [some (pR (some 87))]) rfl rfl (Nat.le_of_ble_eq_true rfl) rfl ?_
  refine J_aload_n dX0_init_0 rfl ?_
  refine J_obj dX0_init_1 (lw_inG 233 (by decide +kernel) (by decide +kernel)) (lw_inG 134 (by decide +kernel) (by decide +kernel)) (lw_inG 135 (by decide +kernel) (by decide +kernel)) (Nat.le_of_ble_eq_true rfl) (Nat.le_of_ble_eq_true rfl) ?_
  exact J_vreturn dX0_init_4 rfl ⟨rfl, rfl⟩
def hp46 : PH := (sR hp45 53 (nI 5).toNatClampNeg (some 87))
def hp47 : PH := (sI (sI (sI (sI (sI (sI (sI (sI hp46 45 0 (nI 4)) 45 1 (nI 40)) 45 2 (nI 0)) 45 3 (nI 0)) 45 4 (nI 0)) 45 5 (nI 0)) 45 6 (nI 0)) 45 7 (nI 0))
theorem ci23_X4_clear : Ct mX4_clear (SHF.take 88) (SHF.take 88) hp46 [pR (some 45)] (fun r h' => r = none ∧ h' = hp47) := by
  refine Ct.of (L := [some (pR (some 45))]) rfl rfl (Nat.le_of_ble_eq_true rfl) rfl ?_
  refine J_aload_n dX4_clear_0 rfl ?_
  refine J_iconstN (n := 4) dX4_clear_1 ?_
  refine J_putI dX4_clear_2 fX4_37 (TK_at s45 (by decide)) rfl rfl rfl (fun _ _ => rfl) ?_
  refine J_aload_n dX4_clear_5 rfl ?_
  refine J_bipush (x := nI 40) dX4_clear_6 (by decide) ?_
  refine J_putI dX4_clear_8 fX4_41 (TK_at s45 (by decide)) rfl rfl rfl (fun _ _ => rfl) ?_
  refine J_aload_n dX4_clear_11 rfl ?_
  refine J_iconstN (n := 0) dX4_clear_12 ?_
  refine J_putI dX4_clear_13 fX4_44 (TK_at s45 (by decide)) rfl rfl rfl (fun _ _ => rfl) ?_
  refine J_aload_n dX4_clear_16 rfl ?_
  refine J_iconstN (n := 0) dX4_clear_17 ?_
  refine J_putI dX4_clear_18 fX4_47 (TK_at s45 (by decide)) rfl rfl rfl (fun _ _ => rfl) ?_
  refine J_aload_n dX4_clear_21 rfl ?_
  refine J_iconstN (n := 0) dX4_clear_22 ?_
  refine J_putI dX4_clear_23 fX4_50 (TK_at s45 (by decide)) rfl rfl rfl (fun _ _ => rfl) ?_
  refine J_aload_n dX4_clear_26 rfl ?_
  refine J_iconstN (n := 0) dX4_clear_27 ?_
  refine J_putI dX4_clear_28 fX4_53 (TK_at s45 (by decide)) rfl rfl rfl (fun _ _ => rfl) ?_
  refine J_aload_n dX4_clear_31 rfl ?_
  refine J_iconstN (n := 0) dX4_clear_32 ?_
  refine J_putI dX4_clear_33 fX4_56 (TK_at s45 (by decide)) rfl rfl rfl (fun _ _ => rfl) ?_
  refine J_aload_n dX4_clear_36 rfl ?_
  refine J_iconstN (n := 0) dX4_clear_37 ?_
  refine J_putI dX4_clear_38 fX4_60 (TK_at s45 (by decide)) rfl rfl rfl (fun _ _ => rfl) ?_
  exact J_vreturn dX4_clear_41 rfl ⟨rfl, rfl⟩
def hp48 : PH := hp47
theorem ci24_X4_init : Ct mX4_init (SHF.take 46) (SHF.take 88) hp25 [pR (some 45)] (fun r h' => r = none ∧ h' = hp48) := by
  refine Ct.of (L := [some (pR (some 45)), none]) rfl rfl (Nat.le_of_ble_eq_true rfl) rfl ?_
  refine J_aload_n dX4_init_0 rfl ?_
  refine J_obj dX4_init_1 (lw_inG 141 (by decide +kernel) (by decide +kernel)) (lw_inG 134 (by decide +kernel) (by decide +kernel)) (lw_inG 135 (by decide +kernel) (by decide +kernel)) (Nat.le_of_ble_eq_true rfl) (Nat.le_of_ble_eq_true rfl) ?_
  refine J_aload_n dX4_init_4 rfl ?_
  refine J_iconstN (n := 4) dX4_init_5 ?_
  refine J_newa (kd := 3) (n := 46) (N := 4) dX4_init_6 (by decide) rfl (lw_inG 226 (by decide +kernel) (by decide +kernel)) (by decide) s46 ⟨⟨by decide +kernel, by decide +kernel⟩, by decide +kernel, by decide +kernel⟩ ?_
  refine J_putFR dX4_init_8 fX4_9 (TK_at s45 (by decide)) rfl rfl rfl (Or.inr ⟨_, rfl⟩) ?_
  refine J_aload_n dX4_init_11 rfl ?_
  refine J_iconstN (n := 4) dX4_init_12 ?_
  refine J_iconstN (n := 3) dX4_init_13 ?_
  refine J_mna (kd := 7) (kr := 0) (n := 47) (N := 4) (K := 3) (ty := .int) dX4_init_14 (by decide) (lw_inG 142 (by decide +kernel) (by decide +kernel)) (by decide) (lw_inG 227 (by decide +kernel) (by decide +kernel)) (by decide) (by decide) (by decide) s47 (by decide) ⟨⟨by decide +kernel, by decide +kernel⟩, by decide +kernel, by decide +kernel⟩ ?_
  refine J_putFR dX4_init_18 fX4_17 (TK_at s45 (by decide)) rfl rfl rfl (Or.inr ⟨_, rfl⟩) ?_
  refine J_aload_n dX4_init_21 rfl ?_
  refine J_iconstN (n := 4) dX4_init_22 ?_
  refine J_newq (kd := 4) (n := 52) (N := 4) (Cn := "LastBoat$Thing") dX4_init_23 (by decide) rfl (lw_inG 144 (by decide +kernel) (by decide +kernel)) (by decide) (by decide) s52 ⟨⟨by decide +kernel, by decide +kernel⟩, by decide +kernel, by decide +kernel⟩ ?_
  refine J_putFR dX4_init_26 fX4_22 (TK_at s45 (by decide)) rfl rfl rfl (Or.inr ⟨_, rfl⟩) ?_
  refine J_aload_n dX4_init_29 rfl ?_
  refine J_bipush (x := nI 6) dX4_init_30 (by decide) ?_
  refine J_newq (kd := 5) (n := 53) (N := 6) (Cn := "LastBoat$Family") dX4_init_32 (by decide) rfl (lw_inG 146 (by decide +kernel) (by decide +kernel)) (by decide) (by decide) s53 ⟨⟨by decide +kernel, by decide +kernel⟩, by decide +kernel, by decide +kernel⟩ ?_
  refine J_putFR dX4_init_35 fX4_28 (TK_at s45 (by decide)) rfl rfl rfl (Or.inr ⟨_, rfl⟩) ?_
  refine J_iconstN (n := 0) dX4_init_38 ?_
  refine J_istore_n (L' := [some (pR (some 45)), some (pI (nI 0))]) dX4_init_39 (by decide) rfl ?_
  refine J_iload_n dX4_init_40 rfl ?_
  refine J_iconstN (n := 4) dX4_init_41 ?_
  refine J_icmp_geN dX4_init_42 (by decide) (by decide) (fun c0 => absurd c0 (by decide)) (fun c0 => ?_)
  refine J_aload_n dX4_init_45 rfl ?_
  refine J_getR (r := some 52) dX4_init_46 fX4_22 (TK_at s45 (by decide)) (fun _ => rfl) (by decide +kernel) ?_
  refine J_iload_n dX4_init_49 rfl ?_
  refine J_new (ci := 7) (n := 54) dX4_init_50 (lw_inG 144 (by decide +kernel) (by decide +kernel)) (lw_inG 148 (by decide +kernel) (by decide +kernel)) (lw_inG 113 (by decide +kernel) (by decide +kernel)) (by decide) s54 ⟨⟨by decide +kernel, by decide +kernel⟩, by decide +kernel, by decide +kernel⟩ ?_
  refine J_dup dX4_init_53 rfl ?_
  show J _ _ _ _ _ _ _ _ hp26
  refine J_callIN (c := 54) (as := []) (st := [pR (some 54), pI (nI 0), pR (some 52)]) dX4_init_54 lX4_32 okX7_init rfl iX7_init rfl rfl (Nat.le_of_ble_eq_true rfl) ⟨Nat.le_of_ble_eq_true rfl, Nat.le_of_ble_eq_true rfl⟩ ⟨⟨by decide +kernel, by decide +kernel⟩, ⟨by decide +kernel, by decide +kernel⟩, by decide +kernel, by decide +kernel⟩ ci13_X7_init (fun r h' q => ?_)
  obtain ⟨rfl, rfl⟩ := q
  show J _ _ _ _ _ _ [pR (some 54), pI (nI 0), pR (some 52)] _ _
  refine J_aast (kd := 4) (ci := 7) dX4_init_57 (by decide) (by decide) rfl (TK_at s52 (by decide)) (TK_at s54 (by decide)) (by unfold vp_in; decide) ?_
  refine J_iinc (y := nI 1) (L' := [some (pR (some 45)), some (pI (nI 1))]) dX4_init_58 rfl (by decide) (by decide) rfl ?_
  refine J_goto dX4_init_61 ?_
  refine J_iload_n dX4_init_40 rfl ?_
  refine J_iconstN (n := 4) dX4_init_41 ?_
  refine J_icmp_geN dX4_init_42 (by decide) (by decide) (fun c0 => absurd c0 (by decide)) (fun c0 => ?_)
  refine J_aload_n dX4_init_45 rfl ?_
  refine J_getR (r := some 52) dX4_init_46 fX4_22 (TK_at s45 (by decide)) (fun _ => rfl) (by decide +kernel) ?_
  refine J_iload_n dX4_init_49 rfl ?_
  refine J_new (ci := 7) (n := 61) dX4_init_50 (lw_inG 144 (by decide +kernel) (by decide +kernel)) (lw_inG 148 (by decide +kernel) (by decide +kernel)) (lw_inG 113 (by decide +kernel) (by decide +kernel)) (by decide) s61 ⟨⟨by decide +kernel, by decide +kernel⟩, by decide +kernel, by decide +kernel⟩ ?_
  refine J_dup dX4_init_53 rfl ?_
  show J _ _ _ _ _ _ _ _ hp28
  refine J_callIN (c := 61) (as := []) (st := [pR (some 61), pI (nI 1), pR (some 52)]) dX4_init_54 lX4_32 okX7_init rfl iX7_init rfl rfl (Nat.le_of_ble_eq_true rfl) ⟨Nat.le_of_ble_eq_true rfl, Nat.le_of_ble_eq_true rfl⟩ ⟨⟨by decide +kernel, by decide +kernel⟩, ⟨by decide +kernel, by decide +kernel⟩, by decide +kernel, by decide +kernel⟩ ci14_X7_init (fun r h' q => ?_)
  obtain ⟨rfl, rfl⟩ := q
  show J _ _ _ _ _ _ [pR (some 61), pI (nI 1), pR (some 52)] _ _
  refine J_aast (kd := 4) (ci := 7) dX4_init_57 (by decide) (by decide) rfl (TK_at s52 (by decide)) (TK_at s61 (by decide)) (by unfold vp_in; decide) ?_
  refine J_iinc (y := nI 2) (L' := [some (pR (some 45)), some (pI (nI 2))]) dX4_init_58 rfl (by decide) (by decide) rfl ?_
  refine J_goto dX4_init_61 ?_
  refine J_iload_n dX4_init_40 rfl ?_
  refine J_iconstN (n := 4) dX4_init_41 ?_
  refine J_icmp_geN dX4_init_42 (by decide) (by decide) (fun c0 => absurd c0 (by decide)) (fun c0 => ?_)
  refine J_aload_n dX4_init_45 rfl ?_
  refine J_getR (r := some 52) dX4_init_46 fX4_22 (TK_at s45 (by decide)) (fun _ => rfl) (by decide +kernel) ?_
  refine J_iload_n dX4_init_49 rfl ?_
  refine J_new (ci := 7) (n := 68) dX4_init_50 (lw_inG 144 (by decide +kernel) (by decide +kernel)) (lw_inG 148 (by decide +kernel) (by decide +kernel)) (lw_inG 113 (by decide +kernel) (by decide +kernel)) (by decide) s68 ⟨⟨by decide +kernel, by decide +kernel⟩, by decide +kernel, by decide +kernel⟩ ?_
  refine J_dup dX4_init_53 rfl ?_
  show J _ _ _ _ _ _ _ _ hp30
  refine J_callIN (c := 68) (as := []) (st := [pR (some 68), pI (nI 2), pR (some 52)]) dX4_init_54 lX4_32 okX7_init rfl iX7_init rfl rfl (Nat.le_of_ble_eq_true rfl) ⟨Nat.le_of_ble_eq_true rfl, Nat.le_of_ble_eq_true rfl⟩ ⟨⟨by decide +kernel, by decide +kernel⟩, ⟨by decide +kernel, by decide +kernel⟩, by decide +kernel, by decide +kernel⟩ ci15_X7_init (fun r h' q => ?_)
  obtain ⟨rfl, rfl⟩ := q
  show J _ _ _ _ _ _ [pR (some 68), pI (nI 2), pR (some 52)] _ _
  refine J_aast (kd := 4) (ci := 7) dX4_init_57 (by decide) (by decide) rfl (TK_at s52 (by decide)) (TK_at s68 (by decide)) (by unfold vp_in; decide) ?_
  refine J_iinc (y := nI 3) (L' := [some (pR (some 45)), some (pI (nI 3))]) dX4_init_58 rfl (by decide) (by decide) rfl ?_
  refine J_goto dX4_init_61 ?_
  refine J_iload_n dX4_init_40 rfl ?_
  refine J_iconstN (n := 4) dX4_init_41 ?_
  refine J_icmp_geN dX4_init_42 (by decide) (by decide) (fun c0 => absurd c0 (by decide)) (fun c0 => ?_)
  refine J_aload_n dX4_init_45 rfl ?_
  refine J_getR (r := some 52) dX4_init_46 fX4_22 (TK_at s45 (by decide)) (fun _ => rfl) (by decide +kernel) ?_
  refine J_iload_n dX4_init_49 rfl ?_
  refine J_new (ci := 7) (n := 75) dX4_init_50 (lw_inG 144 (by decide +kernel) (by decide +kernel)) (lw_inG 148 (by decide +kernel) (by decide +kernel)) (lw_inG 113 (by decide +kernel) (by decide +kernel)) (by decide) s75 ⟨⟨by decide +kernel, by decide +kernel⟩, by decide +kernel, by decide +kernel⟩ ?_
  refine J_dup dX4_init_53 rfl ?_
  show J _ _ _ _ _ _ _ _ hp32
  refine J_callIN (c := 75) (as := []) (st := [pR (some 75), pI (nI 3), pR (some 52)]) dX4_init_54 lX4_32 okX7_init rfl iX7_init rfl rfl (Nat.le_of_ble_eq_true rfl) ⟨Nat.le_of_ble_eq_true rfl, Nat.le_of_ble_eq_true rfl⟩ ⟨⟨by decide +kernel, by decide +kernel⟩, ⟨by decide +kernel, by decide +kernel⟩, by decide +kernel, by decide +kernel⟩ ci16_X7_init (fun r h' q => ?_)
  obtain ⟨rfl, rfl⟩ := q
  show J _ _ _ _ _ _ [pR (some 75), pI (nI 3), pR (some 52)] _ _
  refine J_aast (kd := 4) (ci := 7) dX4_init_57 (by decide) (by decide) rfl (TK_at s52 (by decide)) (TK_at s75 (by decide)) (by unfold vp_in; decide) ?_
  refine J_iinc (y := nI 4) (L' := [some (pR (some 45)), some (pI (nI 4))]) dX4_init_58 rfl (by decide) (by decide) rfl ?_
  refine J_goto dX4_init_61 ?_
  refine J_iload_n dX4_init_40 rfl ?_
  refine J_iconstN (n := 4) dX4_init_41 ?_
  refine J_icmp_geN dX4_init_42 (by decide) (by decide) (fun c0 => ?_) (fun c0 => absurd c0 (by decide))
  refine J_iconstN (n := 0) dX4_init_64 ?_
  refine J_istore_n (L' := [some (pR (some 45)), some (pI (nI 0))]) dX4_init_65 (by decide) rfl ?_
  refine J_iload_n dX4_init_66 rfl ?_
  refine J_bipush (x := nI 6) dX4_init_67 (by decide) ?_
  refine J_icmp_geN dX4_init_69 (by decide) (by decide) (fun c0 => absurd c0 (by decide)) (fun c0 => ?_)
  refine J_aload_n dX4_init_72 rfl ?_
  refine J_getR (r := some 53) dX4_init_73 fX4_28 (TK_at s45 (by decide)) (fun _ => rfl) (by decide +kernel) ?_
  refine J_iload_n dX4_init_76 rfl ?_
  refine J_new (ci := 0) (n := 82) dX4_init_77 (lw_inG 146 (by decide +kernel) (by decide +kernel)) (lw_inG 229 (by decide +kernel) (by decide +kernel)) (lw_inG 114 (by decide +kernel) (by decide +kernel)) (by decide) s82 ⟨⟨by decide +kernel, by decide +kernel⟩, by decide +kernel, by decide +kernel⟩ ?_
  refine J_dup dX4_init_80 rfl ?_
  show J _ _ _ _ _ _ _ _ hp34
  refine J_callIN (c := 82) (as := []) (st := [pR (some 82), pI (nI 0), pR (some 53)]) dX4_init_81 lX4_33 okX0_init rfl iX0_init rfl rfl (Nat.le_of_ble_eq_true rfl) ⟨Nat.le_of_ble_eq_true rfl, Nat.le_of_ble_eq_true rfl⟩ ⟨⟨by decide +kernel, by decide +kernel⟩, ⟨by decide +kernel, by decide +kernel⟩, by decide +kernel, by decide +kernel⟩ ci17_X0_init (fun r h' q => ?_)
  obtain ⟨rfl, rfl⟩ := q
  show J _ _ _ _ _ _ [pR (some 82), pI (nI 0), pR (some 53)] _ _
  refine J_aast (kd := 5) (ci := 0) dX4_init_84 (by decide) (by decide) rfl (TK_at s53 (by decide)) (TK_at s82 (by decide)) (by unfold vp_in; decide) ?_
  refine J_iinc (y := nI 1) (L' := [some (pR (some 45)), some (pI (nI 1))]) dX4_init_85 rfl (by decide) (by decide) rfl ?_
  refine J_goto dX4_init_88 ?_
  refine J_iload_n dX4_init_66 rfl ?_
  refine J_bipush (x := nI 6) dX4_init_67 (by decide) ?_
  refine J_icmp_geN dX4_init_69 (by decide) (by decide) (fun c0 => absurd c0 (by decide)) (fun c0 => ?_)
  refine J_aload_n dX4_init_72 rfl ?_
  refine J_getR (r := some 53) dX4_init_73 fX4_28 (TK_at s45 (by decide)) (fun _ => rfl) (by decide +kernel) ?_
  refine J_iload_n dX4_init_76 rfl ?_
  refine J_new (ci := 0) (n := 83) dX4_init_77 (lw_inG 146 (by decide +kernel) (by decide +kernel)) (lw_inG 229 (by decide +kernel) (by decide +kernel)) (lw_inG 114 (by decide +kernel) (by decide +kernel)) (by decide) s83 ⟨⟨by decide +kernel, by decide +kernel⟩, by decide +kernel, by decide +kernel⟩ ?_
  refine J_dup dX4_init_80 rfl ?_
  show J _ _ _ _ _ _ _ _ hp36
  refine J_callIN (c := 83) (as := []) (st := [pR (some 83), pI (nI 1), pR (some 53)]) dX4_init_81 lX4_33 okX0_init rfl iX0_init rfl rfl (Nat.le_of_ble_eq_true rfl) ⟨Nat.le_of_ble_eq_true rfl, Nat.le_of_ble_eq_true rfl⟩ ⟨⟨by decide +kernel, by decide +kernel⟩, ⟨by decide +kernel, by decide +kernel⟩, by decide +kernel, by decide +kernel⟩ ci18_X0_init (fun r h' q => ?_)
  obtain ⟨rfl, rfl⟩ := q
  show J _ _ _ _ _ _ [pR (some 83), pI (nI 1), pR (some 53)] _ _
  refine J_aast (kd := 5) (ci := 0) dX4_init_84 (by decide) (by decide) rfl (TK_at s53 (by decide)) (TK_at s83 (by decide)) (by unfold vp_in; decide) ?_
  refine J_iinc (y := nI 2) (L' := [some (pR (some 45)), some (pI (nI 2))]) dX4_init_85 rfl (by decide) (by decide) rfl ?_
  refine J_goto dX4_init_88 ?_
  refine J_iload_n dX4_init_66 rfl ?_
  refine J_bipush (x := nI 6) dX4_init_67 (by decide) ?_
  refine J_icmp_geN dX4_init_69 (by decide) (by decide) (fun c0 => absurd c0 (by decide)) (fun c0 => ?_)
  refine J_aload_n dX4_init_72 rfl ?_
  refine J_getR (r := some 53) dX4_init_73 fX4_28 (TK_at s45 (by decide)) (fun _ => rfl) (by decide +kernel) ?_
  refine J_iload_n dX4_init_76 rfl ?_
  refine J_new (ci := 0) (n := 84) dX4_init_77 (lw_inG 146 (by decide +kernel) (by decide +kernel)) (lw_inG 229 (by decide +kernel) (by decide +kernel)) (lw_inG 114 (by decide +kernel) (by decide +kernel)) (by decide) s84 ⟨⟨by decide +kernel, by decide +kernel⟩, by decide +kernel, by decide +kernel⟩ ?_
  refine J_dup dX4_init_80 rfl ?_
  show J _ _ _ _ _ _ _ _ hp38
  refine J_callIN (c := 84) (as := []) (st := [pR (some 84), pI (nI 2), pR (some 53)]) dX4_init_81 lX4_33 okX0_init rfl iX0_init rfl rfl (Nat.le_of_ble_eq_true rfl) ⟨Nat.le_of_ble_eq_true rfl, Nat.le_of_ble_eq_true rfl⟩ ⟨⟨by decide +kernel, by decide +kernel⟩, ⟨by decide +kernel, by decide +kernel⟩, by decide +kernel, by decide +kernel⟩ ci19_X0_init (fun r h' q => ?_)
  obtain ⟨rfl, rfl⟩ := q
  show J _ _ _ _ _ _ [pR (some 84), pI (nI 2), pR (some 53)] _ _
  refine J_aast (kd := 5) (ci := 0) dX4_init_84 (by decide) (by decide) rfl (TK_at s53 (by decide)) (TK_at s84 (by decide)) (by unfold vp_in; decide) ?_
  refine J_iinc (y := nI 3) (L' := [some (pR (some 45)), some (pI (nI 3))]) dX4_init_85 rfl (by decide) (by decide) rfl ?_
  refine J_goto dX4_init_88 ?_
  refine J_iload_n dX4_init_66 rfl ?_
  refine J_bipush (x := nI 6) dX4_init_67 (by decide) ?_
  refine J_icmp_geN dX4_init_69 (by decide) (by decide) (fun c0 => absurd c0 (by decide)) (fun c0 => ?_)
  refine J_aload_n dX4_init_72 rfl ?_
  refine J_getR (r := some 53) dX4_init_73 fX4_28 (TK_at s45 (by decide)) (fun _ => rfl) (by decide +kernel) ?_
  refine J_iload_n dX4_init_76 rfl ?_
  refine J_new (ci := 0) (n := 85) dX4_init_77 (lw_inG 146 (by decide +kernel) (by decide +kernel)) (lw_inG 229 (by decide +kernel) (by decide +kernel)) (lw_inG 114 (by decide +kernel) (by decide +kernel)) (by decide) s85 ⟨⟨by decide +kernel, by decide +kernel⟩, by decide +kernel, by decide +kernel⟩ ?_
  refine J_dup dX4_init_80 rfl ?_
  show J _ _ _ _ _ _ _ _ hp40
  refine J_callIN (c := 85) (as := []) (st := [pR (some 85), pI (nI 3), pR (some 53)]) dX4_init_81 lX4_33 okX0_init rfl iX0_init rfl rfl (Nat.le_of_ble_eq_true rfl) ⟨Nat.le_of_ble_eq_true rfl, Nat.le_of_ble_eq_true rfl⟩ ⟨⟨by decide +kernel, by decide +kernel⟩, ⟨by decide +kernel, by decide +kernel⟩, by decide +kernel, by decide +kernel⟩ ci20_X0_init (fun r h' q => ?_)
  obtain ⟨rfl, rfl⟩ := q
  show J _ _ _ _ _ _ [pR (some 85), pI (nI 3), pR (some 53)] _ _
  refine J_aast (kd := 5) (ci := 0) dX4_init_84 (by decide) (by decide) rfl (TK_at s53 (by decide)) (TK_at s85 (by decide)) (by unfold vp_in; decide) ?_
  refine J_iinc (y := nI 4) (L' := [some (pR (some 45)), some (pI (nI 4))]) dX4_init_85 rfl (by decide) (by decide) rfl ?_
  refine J_goto dX4_init_88 ?_
  refine J_iload_n dX4_init_66 rfl ?_
  refine J_bipush (x := nI 6) dX4_init_67 (by decide) ?_
  refine J_icmp_geN dX4_init_69 (by decide) (by decide) (fun c0 => absurd c0 (by decide)) (fun c0 => ?_)
  refine J_aload_n dX4_init_72 rfl ?_
  refine J_getR (r := some 53) dX4_init_73 fX4_28 (TK_at s45 (by decide)) (fun _ => rfl) (by decide +kernel) ?_
  refine J_iload_n dX4_init_76 rfl ?_
  refine J_new (ci := 0) (n := 86) dX4_init_77 (lw_inG 146 (by decide +kernel) (by decide +kernel)) (lw_inG 229 (by decide +kernel) (by decide +kernel)) (lw_inG 114 (by decide +kernel) (by decide +kernel)) (by decide) s86 ⟨⟨by decide +kernel, by decide +kernel⟩, by decide +kernel, by decide +kernel⟩ ?_
  refine J_dup dX4_init_80 rfl ?_
  show J _ _ _ _ _ _ _ _ hp42
  refine J_callIN (c := 86) (as := []) (st := [pR (some 86), pI (nI 4), pR (some 53)]) dX4_init_81 lX4_33 okX0_init rfl iX0_init rfl rfl (Nat.le_of_ble_eq_true rfl) ⟨Nat.le_of_ble_eq_true rfl, Nat.le_of_ble_eq_true rfl⟩ ⟨⟨by decide +kernel, by decide +kernel⟩, ⟨by decide +kernel, by decide +kernel⟩, by decide +kernel, by decide +kernel⟩ ci21_X0_init (fun r h' q => ?_)
  obtain ⟨rfl, rfl⟩ := q
  show J _ _ _ _ _ _ [pR (some 86), pI (nI 4), pR (some 53)] _ _
  refine J_aast (kd := 5) (ci := 0) dX4_init_84 (by decide) (by decide) rfl (TK_at s53 (by decide)) (TK_at s86 (by decide)) (by unfold vp_in; decide) ?_
  refine J_iinc (y := nI 5) (L' := [some (pR (some 45)), some (pI (nI 5))]) dX4_init_85 rfl (by decide) (by decide) rfl ?_
  refine J_goto dX4_init_88 ?_
  refine J_iload_n dX4_init_66 rfl ?_
  refine J_bipush (x := nI 6) dX4_init_67 (by decide) ?_
  refine J_icmp_geN dX4_init_69 (by decide) (by decide) (fun c0 => absurd c0 (by decide)) (fun c0 => ?_)
  refine J_aload_n dX4_init_72 rfl ?_
  refine J_getR (r := some 53) dX4_init_73 fX4_28 (TK_at s45 (by decide)) (fun _ => rfl) (by decide +kernel) ?_
  refine J_iload_n dX4_init_76 rfl ?_
  refine J_new (ci := 0) (n := 87) dX4_init_77 (lw_inG 146 (by decide +kernel) (by decide +kernel)) (lw_inG 229 (by decide +kernel) (by decide +kernel)) (lw_inG 114 (by decide +kernel) (by decide +kernel)) (by decide) s87 ⟨⟨by decide +kernel, by decide +kernel⟩, by decide +kernel, by decide +kernel⟩ ?_
  refine J_dup dX4_init_80 rfl ?_
  show J _ _ _ _ _ _ _ _ hp44
  refine J_callIN (c := 87) (as := []) (st := [pR (some 87), pI (nI 5), pR (some 53)]) dX4_init_81 lX4_33 okX0_init rfl iX0_init rfl rfl (Nat.le_of_ble_eq_true rfl) ⟨Nat.le_of_ble_eq_true rfl, Nat.le_of_ble_eq_true rfl⟩ ⟨⟨by decide +kernel, by decide +kernel⟩, ⟨by decide +kernel, by decide +kernel⟩, by decide +kernel, by decide +kernel⟩ ci22_X0_init (fun r h' q => ?_)
  obtain ⟨rfl, rfl⟩ := q
  show J _ _ _ _ _ _ [pR (some 87), pI (nI 5), pR (some 53)] _ _
  refine J_aast (kd := 5) (ci := 0) dX4_init_84 (by decide) (by decide) rfl (TK_at s53 (by decide)) (TK_at s87 (by decide)) (by unfold vp_in; decide) ?_
  refine J_iinc (y := nI 6) (L' := [some (pR (some 45)), some (pI (nI 6))]) dX4_init_85 rfl (by decide) (by decide) rfl ?_
  refine J_goto dX4_init_88 ?_
  refine J_iload_n dX4_init_66 rfl ?_
  refine J_bipush (x := nI 6) dX4_init_67 (by decide) ?_
  refine J_icmp_geN dX4_init_69 (by decide) (by decide) (fun c0 => ?_) (fun c0 => absurd c0 (by decide))
  refine J_aload_n dX4_init_91 rfl ?_
  show J _ _ _ _ _ _ _ _ hp46
  refine J_callV (ci := 4) (c := 45) (as := []) (st := []) dX4_init_92 lX4_34 okX4_clear vX4_clear (TK_at s45 (by decide)) (by decide) rfl rfl rfl (Nat.le_of_ble_eq_true rfl) ⟨Nat.le_of_ble_eq_true rfl, Nat.le_of_ble_eq_true rfl⟩ ⟨⟨by decide +kernel, by decide +kernel⟩, ⟨by decide +kernel, by decide +kernel⟩, by decide +kernel, by decide +kernel⟩ ci23_X4_clear (fun r h' q => ?_)
  obtain ⟨rfl, rfl⟩ := q
  show J _ _ _ _ _ _ [] _ _
  exact J_vreturn dX4_init_95 rfl ⟨rfl, rfl⟩
def hp49 : PH := (zc (sR hp48 0 3 (some 45)) 88)
def hp50 : PH := (sR (zc (sR (zc (sR (zc (sI (sI hp49 88 0 (nI 0)) 88 1 (-1)) 89) 88 11 (some 89)) 90) 88 12 (some 90)) 91) 88 13 (some 91))
theorem ci25_X5_init : Ct mX5_init (SHF.take 89) (SHF.take 92) hp49 [pR (some 88)] (fun r h' => r = none ∧ h' = hp50) := by
  refine Ct.of (L := [some (pR (some 88))]) rfl rfl (Nat.le_of_ble_eq_true rfl) rfl ?_
  refine J_aload_n dX5_init_0 rfl ?_
  refine J_obj dX5_init_1 (lw_inG 329 (by decide +kernel) (by decide +kernel)) (lw_inG 134 (by decide +kernel) (by decide +kernel)) (lw_inG 135 (by decide +kernel) (by decide +kernel)) (Nat.le_of_ble_eq_true rfl) (Nat.le_of_ble_eq_true rfl) ?_
  refine J_aload_n dX5_init_4 rfl ?_
  refine J_iconstN (n := 0) dX5_init_5 ?_
  refine J_putI dX5_init_6 fX5_11 (TK_at s88 (by decide)) rfl rfl rfl (fun _ _ => rfl) ?_
  refine J_aload_n dX5_init_9 rfl ?_
  refine J_iconst (x := -1) dX5_init_10 (by decide) ?_
  refine J_putI dX5_init_11 fX5_15 (TK_at s88 (by decide)) rfl rfl rfl (fun _ _ => rfl) ?_
  refine J_aload_n dX5_init_14 rfl ?_
  refine J_bipush (x := nI 7) dX5_init_15 (by decide) ?_
  refine J_newa (kd := 0) (n := 89) (N := 7) dX5_init_17 (by decide) rfl (lw_inG 227 (by decide +kernel) (by decide +kernel)) (by decide) s89 ⟨⟨by decide +kernel, by decide +kernel⟩, by decide +kernel, by decide +kernel⟩ ?_
  refine J_putFR dX5_init_19 fX5_18 (TK_at s88 (by decide)) rfl rfl rfl (Or.inr ⟨_, rfl⟩) ?_
  refine J_aload_n dX5_init_22 rfl ?_
  refine J_bipush (x := nI 42) dX5_init_23 (by decide) ?_
  refine J_newa (kd := 0) (n := 90) (N := 42) dX5_init_25 (by decide) rfl (lw_inG 227 (by decide +kernel) (by decide +kernel)) (by decide) s90 ⟨⟨by decide +kernel, by decide +kernel⟩, by decide +kernel, by decide +kernel⟩ ?_
  refine J_putFR dX5_init_27 fX5_22 (TK_at s88 (by decide)) rfl rfl rfl (Or.inr ⟨_, rfl⟩) ?_
  refine J_aload_n dX5_init_30 rfl ?_
  refine J_bipush (x := nI 42) dX5_init_31 (by decide) ?_
  refine J_newa (kd := 0) (n := 91) (N := 42) dX5_init_33 (by decide) rfl (lw_inG 227 (by decide +kernel) (by decide +kernel)) (by decide) s91 ⟨⟨by decide +kernel, by decide +kernel⟩, by decide +kernel, by decide +kernel⟩ ?_
  refine J_putFR dX5_init_35 fX5_25 (TK_at s88 (by decide)) rfl rfl rfl (Or.inr ⟨_, rfl⟩) ?_
  exact J_vreturn dX5_init_38 rfl ⟨rfl, rfl⟩
def hp51 : PH := (zc (sR hp50 0 4 (some 88)) 92)
def hp52 : PH := (zc (sR (zc (sR (zc (sR (zc (sR (zc hp51 93) 92 0 (some 93)) 94) 92 1 (some 94)) 95) 92 2 (some 95)) 96) 92 3 (some 96)) 97)
def hp53 : PH := hp52
theorem ci26_X8_init : Ct mX8_init (SHF.take 98) (SHF.take 98) hp52 [pR (some 97)] (fun r h' => r = none ∧ h' = hp53) := by
  refine Ct.of (L := [some (pR (some 97))]) rfl rfl (Nat.le_of_ble_eq_true rfl) rfl ?_
  refine J_aload_n dX8_init_0 rfl ?_
  refine J_obj dX8_init_1 (lw_inG 386 (by decide +kernel) (by decide +kernel)) (lw_inG 134 (by decide +kernel) (by decide +kernel)) (lw_inG 135 (by decide +kernel) (by decide +kernel)) (Nat.le_of_ble_eq_true rfl) (Nat.le_of_ble_eq_true rfl) ?_
  exact J_vreturn dX8_init_4 rfl ⟨rfl, rfl⟩
def hp54 : PH := (sR hp53 92 4 (some 97))
theorem ci27_X2_init : Ct mX2_init (SHF.take 93) (SHF.take 98) hp51 [pR (some 92)] (fun r h' => r = none ∧ h' = hp54) := by
  refine Ct.of (L := [some (pR (some 92))]) rfl rfl (Nat.le_of_ble_eq_true rfl) rfl ?_
  refine J_aload_n dX2_init_0 rfl ?_
  refine J_obj dX2_init_1 (lw_inG 380 (by decide +kernel) (by decide +kernel)) (lw_inG 134 (by decide +kernel) (by decide +kernel)) (lw_inG 135 (by decide +kernel) (by decide +kernel)) (Nat.le_of_ble_eq_true rfl) (Nat.le_of_ble_eq_true rfl) ?_
  refine J_aload_n dX2_init_4 rfl ?_
  refine J_bipush (x := nI 61) dX2_init_5 (by decide) ?_
  refine J_newa (kd := 3) (n := 93) (N := 61) dX2_init_7 (by decide) rfl (lw_inG 226 (by decide +kernel) (by decide +kernel)) (by decide) s93 ⟨⟨by decide +kernel, by decide +kernel⟩, by decide +kernel, by decide +kernel⟩ ?_
  refine J_putFR dX2_init_9 fX2_11 (TK_at s92 (by decide)) rfl rfl rfl (Or.inr ⟨_, rfl⟩) ?_
  refine J_aload_n dX2_init_12 rfl ?_
  refine J_bipush (x := nI 61) dX2_init_13 (by decide) ?_
  refine J_newa (kd := 3) (n := 94) (N := 61) dX2_init_15 (by decide) rfl (lw_inG 226 (by decide +kernel) (by decide +kernel)) (by decide) s94 ⟨⟨by decide +kernel, by decide +kernel⟩, by decide +kernel, by decide +kernel⟩ ?_
  refine J_putFR dX2_init_17 fX2_15 (TK_at s92 (by decide)) rfl rfl rfl (Or.inr ⟨_, rfl⟩) ?_
  refine J_aload_n dX2_init_20 rfl ?_
  refine J_bipush (x := nI 61) dX2_init_21 (by decide) ?_
  refine J_newa (kd := 3) (n := 95) (N := 61) dX2_init_23 (by decide) rfl (lw_inG 226 (by decide +kernel) (by decide +kernel)) (by decide) s95 ⟨⟨by decide +kernel, by decide +kernel⟩, by decide +kernel, by decide +kernel⟩ ?_
  refine J_putFR dX2_init_25 fX2_18 (TK_at s92 (by decide)) rfl rfl rfl (Or.inr ⟨_, rfl⟩) ?_
  refine J_aload_n dX2_init_28 rfl ?_
  refine J_bipush (x := nI 61) dX2_init_29 (by decide) ?_
  refine J_newa (kd := 3) (n := 96) (N := 61) dX2_init_31 (by decide) rfl (lw_inG 226 (by decide +kernel) (by decide +kernel)) (by decide) s96 ⟨⟨by decide +kernel, by decide +kernel⟩, by decide +kernel, by decide +kernel⟩ ?_
  refine J_putFR dX2_init_33 fX2_21 (TK_at s92 (by decide)) rfl rfl rfl (Or.inr ⟨_, rfl⟩) ?_
  refine J_aload_n dX2_init_36 rfl ?_
  refine J_new (ci := 8) (n := 97) dX2_init_37 (lw_inG 381 (by decide +kernel) (by decide +kernel)) (lw_inG 382 (by decide +kernel) (by decide +kernel)) (lw_inG 117 (by decide +kernel) (by decide +kernel)) (by decide) s97 ⟨⟨by decide +kernel, by decide +kernel⟩, by decide +kernel, by decide +kernel⟩ ?_
  refine J_dup dX2_init_40 rfl ?_
  show J _ _ _ _ _ _ _ _ hp52
  refine J_callIN (c := 97) (as := []) (st := [pR (some 97), pR (some 92)]) dX2_init_41 lX2_26 okX8_init rfl iX8_init rfl rfl (Nat.le_of_ble_eq_true rfl) ⟨Nat.le_of_ble_eq_true rfl, Nat.le_of_ble_eq_true rfl⟩ ⟨⟨by decide +kernel, by decide +kernel⟩, ⟨by decide +kernel, by decide +kernel⟩, by decide +kernel, by decide +kernel⟩ ci26_X8_init (fun r h' q => ?_)
  obtain ⟨rfl, rfl⟩ := q
  show J _ _ _ _ _ _ [pR (some 97), pR (some 92)] _ _
  refine J_putFR dX2_init_44 fX2_27 (TK_at s92 (by decide)) rfl rfl rfl (Or.inl ⟨_, rfl⟩) ?_
  exact J_vreturn dX2_init_47 rfl ⟨rfl, rfl⟩
def hp55 : PH := (zc (sR hp54 0 5 (some 92)) 98)
def hp56 : PH := (zc (sR (zc (sR (zc hp55 99) 98 0 (some 99)) 100) 98 1 (some 100)) 101)
def hp57 : PH := hp56
theorem ci28_X8_init : Ct mX8_init (SHF.take 102) (SHF.take 102) hp56 [pR (some 101)] (fun r h' => r = none ∧ h' = hp57) := by
  refine Ct.of (L := [some (pR (some 101))]) rfl rfl (Nat.le_of_ble_eq_true rfl) rfl ?_
  refine J_aload_n dX8_init_0 rfl ?_
  refine J_obj dX8_init_1 (lw_inG 386 (by decide +kernel) (by decide +kernel)) (lw_inG 134 (by decide +kernel) (by decide +kernel)) (lw_inG 135 (by decide +kernel) (by decide +kernel)) (Nat.le_of_ble_eq_true rfl) (Nat.le_of_ble_eq_true rfl) ?_
  exact J_vreturn dX8_init_4 rfl ⟨rfl, rfl⟩
def hp58 : PH := (zc (sR hp57 98 2 (some 101)) 102)
def hp59 : PH := hp58
theorem ci29_X8_init : Ct mX8_init (SHF.take 103) (SHF.take 103) hp58 [pR (some 102)] (fun r h' => r = none ∧ h' = hp59) := by
  refine Ct.of (L := [some (pR (some 102))]) rfl rfl (Nat.le_of_ble_eq_true rfl) rfl ?_
  refine J_aload_n dX8_init_0 rfl ?_
  refine J_obj dX8_init_1 (lw_inG 386 (by decide +kernel) (by decide +kernel)) (lw_inG 134 (by decide +kernel) (by decide +kernel)) (lw_inG 135 (by decide +kernel) (by decide +kernel)) (Nat.le_of_ble_eq_true rfl) (Nat.le_of_ble_eq_true rfl) ?_
  exact J_vreturn dX8_init_4 rfl ⟨rfl, rfl⟩
def hp60 : PH := (sR hp59 98 3 (some 102))
theorem ci30_X3_init : Ct mX3_init (SHF.take 99) (SHF.take 103) hp55 [pR (some 98)] (fun r h' => r = none ∧ h' = hp60) := by
  refine Ct.of (L := [some (pR (some 98))]) rfl rfl (Nat.le_of_ble_eq_true rfl) rfl ?_
  refine J_aload_n dX3_init_0 rfl ?_
  refine J_obj dX3_init_1 (lw_inG 473 (by decide +kernel) (by decide +kernel)) (lw_inG 134 (by decide +kernel) (by decide +kernel)) (lw_inG 135 (by decide +kernel) (by decide +kernel)) (Nat.le_of_ble_eq_true rfl) (Nat.le_of_ble_eq_true rfl) ?_
  refine J_aload_n dX3_init_4 rfl ?_
  refine J_sipush (x := nI 441) dX3_init_5 (by decide) ?_
  refine J_newa (kd := 3) (n := 99) (N := 441) dX3_init_8 (by decide) rfl (lw_inG 226 (by decide +kernel) (by decide +kernel)) (by decide) s99 ⟨⟨by decide +kernel, by decide +kernel⟩, by decide +kernel, by decide +kernel⟩ ?_
  refine J_putFR dX3_init_10 fX3_11 (TK_at s98 (by decide)) rfl rfl rfl (Or.inr ⟨_, rfl⟩) ?_
  refine J_aload_n dX3_init_13 rfl ?_
  refine J_sipush (x := nI 441) dX3_init_14 (by decide) ?_
  refine J_newa (kd := 3) (n := 100) (N := 441) dX3_init_17 (by decide) rfl (lw_inG 226 (by decide +kernel) (by decide +kernel)) (by decide) s100 ⟨⟨by decide +kernel, by decide +kernel⟩, by decide +kernel, by decide +kernel⟩ ?_
  refine J_putFR dX3_init_19 fX3_15 (TK_at s98 (by decide)) rfl rfl rfl (Or.inr ⟨_, rfl⟩) ?_
  refine J_aload_n dX3_init_22 rfl ?_
  refine J_new (ci := 8) (n := 101) dX3_init_23 (lw_inG 474 (by decide +kernel) (by decide +kernel)) (lw_inG 382 (by decide +kernel) (by decide +kernel)) (lw_inG 117 (by decide +kernel) (by decide +kernel)) (by decide) s101 ⟨⟨by decide +kernel, by decide +kernel⟩, by decide +kernel, by decide +kernel⟩ ?_
  refine J_dup dX3_init_26 rfl ?_
  show J _ _ _ _ _ _ _ _ hp56
  refine J_callIN (c := 101) (as := []) (st := [pR (some 101), pR (some 98)]) dX3_init_27 lX3_20 okX8_init rfl iX8_init rfl rfl (Nat.le_of_ble_eq_true rfl) ⟨Nat.le_of_ble_eq_true rfl, Nat.le_of_ble_eq_true rfl⟩ ⟨⟨by decide +kernel, by decide +kernel⟩, ⟨by decide +kernel, by decide +kernel⟩, by decide +kernel, by decide +kernel⟩ ci28_X8_init (fun r h' q => ?_)
  obtain ⟨rfl, rfl⟩ := q
  show J _ _ _ _ _ _ [pR (some 101), pR (some 98)] _ _
  refine J_putFR dX3_init_30 fX3_21 (TK_at s98 (by decide)) rfl rfl rfl (Or.inl ⟨_, rfl⟩) ?_
  refine J_aload_n dX3_init_33 rfl ?_
  refine J_new (ci := 8) (n := 102) dX3_init_34 (lw_inG 474 (by decide +kernel) (by decide +kernel)) (lw_inG 382 (by decide +kernel) (by decide +kernel)) (lw_inG 117 (by decide +kernel) (by decide +kernel)) (by decide) s102 ⟨⟨by decide +kernel, by decide +kernel⟩, by decide +kernel, by decide +kernel⟩ ?_
  refine J_dup dX3_init_37 rfl ?_
  show J _ _ _ _ _ _ _ _ hp58
  refine J_callIN (c := 102) (as := []) (st := [pR (some 102), pR (some 98)]) dX3_init_38 lX3_20 okX8_init rfl iX8_init rfl rfl (Nat.le_of_ble_eq_true rfl) ⟨Nat.le_of_ble_eq_true rfl, Nat.le_of_ble_eq_true rfl⟩ ⟨⟨by decide +kernel, by decide +kernel⟩, ⟨by decide +kernel, by decide +kernel⟩, by decide +kernel, by decide +kernel⟩ ci29_X8_init (fun r h' q => ?_)
  obtain ⟨rfl, rfl⟩ := q
  show J _ _ _ _ _ _ [pR (some 102), pR (some 98)] _ _
  refine J_putFR dX3_init_41 fX3_25 (TK_at s98 (by decide)) rfl rfl rfl (Or.inl ⟨_, rfl⟩) ?_
  exact J_vreturn dX3_init_44 rfl ⟨rfl, rfl⟩
def hp61 : PH := (zc (sR hp60 0 6 (some 98)) 103)
def hp62 : PH := (sR (mz (sI (sR (zc (sR (mz hp61 104 4) 103 0 (some 104)) 109) 103 1 (some 109)) 103 2 (nI 0)) 110 5) 103 3 (some 110))
theorem ci31_X1_init : Ct mX1_init (SHF.take 104) (SHF.take 116) hp61 [pR (some 103)] (fun r h' => r = none ∧ h' = hp62) := by
  refine Ct.of (L := [some (pR (some 103))]) rfl rfl (Nat.le_of_ble_eq_true rfl) rfl ?_
  refine J_aload_n dX1_init_0 rfl ?_
  refine J_obj dX1_init_1 (lw_inG 497 (by decide +kernel) (by decide +kernel)) (lw_inG 134 (by decide +kernel) (by decide +kernel)) (lw_inG 135 (by decide +kernel) (by decide +kernel)) (Nat.le_of_ble_eq_true rfl) (Nat.le_of_ble_eq_true rfl) ?_
  refine J_aload_n dX1_init_4 rfl ?_
  refine J_iconstN (n := 4) dX1_init_5 ?_
  refine J_bipush (x := nI 41) dX1_init_6 (by decide) ?_
  refine J_mna (kd := 8) (kr := 3) (n := 104) (N := 4) (K := 41) (ty := .long) dX1_init_8 (by decide) (lw_inG 498 (by decide +kernel) (by decide +kernel)) (by decide) (lw_inG 226 (by decide +kernel) (by decide +kernel)) (by decide) (by decide) (by decide) s104 (by decide) ⟨⟨by decide +kernel, by decide +kernel⟩, by decide +kernel, by decide +kernel⟩ ?_
  refine J_putFR dX1_init_12 fX1_11 (TK_at s103 (by decide)) rfl rfl rfl (Or.inr ⟨_, rfl⟩) ?_
  refine J_aload_n dX1_init_15 rfl ?_
  refine J_iconstN (n := 4) dX1_init_16 ?_
  refine J_newa (kd := 0) (n := 109) (N := 4) dX1_init_17 (by decide) rfl (lw_inG 227 (by decide +kernel) (by decide +kernel)) (by decide) s109 ⟨⟨by decide +kernel, by decide +kernel⟩, by decide +kernel, by decide +kernel⟩ ?_
  refine J_putFR dX1_init_19 fX1_16 (TK_at s103 (by decide)) rfl rfl rfl (Or.inr ⟨_, rfl⟩) ?_
  refine J_aload_n dX1_init_22 rfl ?_
  refine J_iconstN (n := 0) dX1_init_23 ?_
  refine J_putI dX1_init_24 fX1_20 (TK_at s103 (by decide)) rfl rfl rfl (fun _ _ => rfl) ?_
  refine J_aload_n dX1_init_27 rfl ?_
  refine J_iconstN (n := 5) dX1_init_28 ?_
  refine J_bipush (x := nI 100) dX1_init_29 (by decide) ?_
  refine J_mna (kd := 8) (kr := 3) (n := 110) (N := 5) (K := 100) (ty := .long) dX1_init_31 (by decide) (lw_inG 498 (by decide +kernel) (by decide +kernel)) (by decide) (lw_inG 226 (by decide +kernel) (by decide +kernel)) (by decide) (by decide) (by decide) s110 (by decide) ⟨⟨by decide +kernel, by decide +kernel⟩, by decide +kernel, by decide +kernel⟩ ?_
  refine J_putFR dX1_init_35 fX1_24 (TK_at s103 (by decide)) rfl rfl rfl (Or.inr ⟨_, rfl⟩) ?_
  exact J_vreturn dX1_init_38 rfl ⟨rfl, rfl⟩
def hp63 : PH := (zc (sR (zc (sR hp62 0 7 (some 103)) 116) 0 8 (some 116)) 117)
def hp64 : PH := (zc (sR (mz (sI hp63 117 0 (nI 0)) 118 7) 117 4 (some 118)) 126)
def hp65 : PH := hp64
theorem ci32_X8_init : Ct mX8_init (SHF.take 127) (SHF.take 127) hp64 [pR (some 126)] (fun r h' => r = none ∧ h' = hp65) := by
  refine Ct.of (L := [some (pR (some 126))]) rfl rfl (Nat.le_of_ble_eq_true rfl) rfl ?_
  refine J_aload_n dX8_init_0 rfl ?_
  refine J_obj dX8_init_1 (lw_inG 386 (by decide +kernel) (by decide +kernel)) (lw_inG 134 (by decide +kernel) (by decide +kernel)) (lw_inG 135 (by decide +kernel) (by decide +kernel)) (Nat.le_of_ble_eq_true rfl) (Nat.le_of_ble_eq_true rfl) ?_
  exact J_vreturn dX8_init_4 rfl ⟨rfl, rfl⟩
def hp66 : PH := (sR hp65 117 6 (some 126))
theorem ci33_X6_init : Ct mX6_init (SHF.take 118) (SHF.take 127) hp63 [pR (some 117)] (fun r h' => r = none ∧ h' = hp66) := by
  refine Ct.of (L := [some (pR (some 117))]) rfl rfl (Nat.le_of_ble_eq_true rfl) rfl ?_
  refine J_aload_n dX6_init_0 rfl ?_
  refine J_obj dX6_init_1 (lw_inG 521 (by decide +kernel) (by decide +kernel)) (lw_inG 134 (by decide +kernel) (by decide +kernel)) (lw_inG 135 (by decide +kernel) (by decide +kernel)) (Nat.le_of_ble_eq_true rfl) (Nat.le_of_ble_eq_true rfl) ?_
  refine J_aload_n dX6_init_4 rfl ?_
  refine J_iconstN (n := 0) dX6_init_5 ?_
  refine J_putI dX6_init_6 fX6_9 (TK_at s117 (by decide)) rfl rfl rfl (fun _ _ => rfl) ?_
  refine J_aload_n dX6_init_9 rfl ?_
  refine J_bipush (x := nI 7) dX6_init_10 (by decide) ?_
  refine J_iconstN (n := 4) dX6_init_12 ?_
  refine J_mna (kd := 7) (kr := 0) (n := 118) (N := 7) (K := 4) (ty := .int) dX6_init_13 (by decide) (lw_inG 522 (by decide +kernel) (by decide +kernel)) (by decide) (lw_inG 227 (by decide +kernel) (by decide +kernel)) (by decide) (by decide) (by decide) s118 (by decide) ⟨⟨by decide +kernel, by decide +kernel⟩, by decide +kernel, by decide +kernel⟩ ?_
  refine J_putFR dX6_init_17 fX6_17 (TK_at s117 (by decide)) rfl rfl rfl (Or.inr ⟨_, rfl⟩) ?_
  refine J_aload_n dX6_init_20 rfl ?_
  refine J_new (ci := 8) (n := 126) dX6_init_21 (lw_inG 523 (by decide +kernel) (by decide +kernel)) (lw_inG 382 (by decide +kernel) (by decide +kernel)) (lw_inG 117 (by decide +kernel) (by decide +kernel)) (by decide) s126 ⟨⟨by decide +kernel, by decide +kernel⟩, by decide +kernel, by decide +kernel⟩ ?_
  refine J_dup dX6_init_24 rfl ?_
  show J _ _ _ _ _ _ _ _ hp64
  refine J_callIN (c := 126) (as := []) (st := [pR (some 126), pR (some 117)]) dX6_init_25 lX6_22 okX8_init rfl iX8_init rfl rfl (Nat.le_of_ble_eq_true rfl) ⟨Nat.le_of_ble_eq_true rfl, Nat.le_of_ble_eq_true rfl⟩ ⟨⟨by decide +kernel, by decide +kernel⟩, ⟨by decide +kernel, by decide +kernel⟩, by decide +kernel, by decide +kernel⟩ ci32_X8_init (fun r h' q => ?_)
  obtain ⟨rfl, rfl⟩ := q
  show J _ _ _ _ _ _ [pR (some 126), pR (some 117)] _ _
  refine J_putFR dX6_init_28 fX6_23 (TK_at s117 (by decide)) rfl rfl rfl (Or.inl ⟨_, rfl⟩) ?_
  exact J_vreturn dX6_init_31 rfl ⟨rfl, rfl⟩
def hp67 : PH := (zc (sR (zc (sR hp66 0 9 (some 117)) 127) 0 10 (some 127)) 128)
def hp68 : PH := (zc (sR (mz (sI hp67 128 0 (nI 0)) 129 7) 128 4 (some 129)) 137)
def hp69 : PH := hp68
theorem ci34_X8_init : Ct mX8_init (SHF.take 138) (SHF.take 138) hp68 [pR (some 137)] (fun r h' => r = none ∧ h' = hp69) := by
  refine Ct.of (L := [some (pR (some 137))]) rfl rfl (Nat.le_of_ble_eq_true rfl) rfl ?_
  refine J_aload_n dX8_init_0 rfl ?_
  refine J_obj dX8_init_1 (lw_inG 386 (by decide +kernel) (by decide +kernel)) (lw_inG 134 (by decide +kernel) (by decide +kernel)) (lw_inG 135 (by decide +kernel) (by decide +kernel)) (Nat.le_of_ble_eq_true rfl) (Nat.le_of_ble_eq_true rfl) ?_
  exact J_vreturn dX8_init_4 rfl ⟨rfl, rfl⟩
def hp70 : PH := (sR hp69 128 6 (some 137))
theorem ci35_X6_init : Ct mX6_init (SHF.take 129) (SHF.take 138) hp67 [pR (some 128)] (fun r h' => r = none ∧ h' = hp70) := by
  refine Ct.of (L := [some (pR (some 128))]) rfl rfl (Nat.le_of_ble_eq_true rfl) rfl ?_
  refine J_aload_n dX6_init_0 rfl ?_
  refine J_obj dX6_init_1 (lw_inG 521 (by decide +kernel) (by decide +kernel)) (lw_inG 134 (by decide +kernel) (by decide +kernel)) (lw_inG 135 (by decide +kernel) (by decide +kernel)) (Nat.le_of_ble_eq_true rfl) (Nat.le_of_ble_eq_true rfl) ?_
  refine J_aload_n dX6_init_4 rfl ?_
  refine J_iconstN (n := 0) dX6_init_5 ?_
  refine J_putI dX6_init_6 fX6_9 (TK_at s128 (by decide)) rfl rfl rfl (fun _ _ => rfl) ?_
  refine J_aload_n dX6_init_9 rfl ?_
  refine J_bipush (x := nI 7) dX6_init_10 (by decide) ?_
  refine J_iconstN (n := 4) dX6_init_12 ?_
  refine J_mna (kd := 7) (kr := 0) (n := 129) (N := 7) (K := 4) (ty := .int) dX6_init_13 (by decide) (lw_inG 522 (by decide +kernel) (by decide +kernel)) (by decide) (lw_inG 227 (by decide +kernel) (by decide +kernel)) (by decide) (by decide) (by decide) s129 (by decide) ⟨⟨by decide +kernel, by decide +kernel⟩, by decide +kernel, by decide +kernel⟩ ?_
  refine J_putFR dX6_init_17 fX6_17 (TK_at s128 (by decide)) rfl rfl rfl (Or.inr ⟨_, rfl⟩) ?_
  refine J_aload_n dX6_init_20 rfl ?_
  refine J_new (ci := 8) (n := 137) dX6_init_21 (lw_inG 523 (by decide +kernel) (by decide +kernel)) (lw_inG 382 (by decide +kernel) (by decide +kernel)) (lw_inG 117 (by decide +kernel) (by decide +kernel)) (by decide) s137 ⟨⟨by decide +kernel, by decide +kernel⟩, by decide +kernel, by decide +kernel⟩ ?_
  refine J_dup dX6_init_24 rfl ?_
  show J _ _ _ _ _ _ _ _ hp68
  refine J_callIN (c := 137) (as := []) (st := [pR (some 137), pR (some 128)]) dX6_init_25 lX6_22 okX8_init rfl iX8_init rfl rfl (Nat.le_of_ble_eq_true rfl) ⟨Nat.le_of_ble_eq_true rfl, Nat.le_of_ble_eq_true rfl⟩ ⟨⟨by decide +kernel, by decide +kernel⟩, ⟨by decide +kernel, by decide +kernel⟩, by decide +kernel, by decide +kernel⟩ ci34_X8_init (fun r h' q => ?_)
  obtain ⟨rfl, rfl⟩ := q
  show J _ _ _ _ _ _ [pR (some 137), pR (some 128)] _ _
  refine J_putFR dX6_init_28 fX6_23 (TK_at s128 (by decide)) rfl rfl rfl (Or.inl ⟨_, rfl⟩) ?_
  exact J_vreturn dX6_init_31 rfl ⟨rfl, rfl⟩
def hp71 : PH := (zc (sR hp70 127 (nI 0).toNatClampNeg (some 128)) 138)
def hp72 : PH := (zc (sR (mz (sI hp71 138 0 (nI 0)) 139 7) 138 4 (some 139)) 147)
def hp73 : PH := hp72
theorem ci36_X8_init : Ct mX8_init (SHF.take 148) (SHF.take 148) hp72 [pR (some 147)] (fun r h' => r = none ∧ h' = hp73) := by
  refine Ct.of (L := [some (pR (some 147))]) rfl rfl (Nat.le_of_ble_eq_true rfl) rfl ?_
  refine J_aload_n dX8_init_0 rfl ?_
  refine J_obj dX8_init_1 (lw_inG 386 (by decide +kernel) (by decide +kernel)) (lw_inG 134 (by decide +kernel) (by decide +kernel)) (lw_inG 135 (by decide +kernel) (by decide +kernel)) (Nat.le_of_ble_eq_true rfl) (Nat.le_of_ble_eq_true rfl) ?_
  exact J_vreturn dX8_init_4 rfl ⟨rfl, rfl⟩
def hp74 : PH := (sR hp73 138 6 (some 147))
theorem ci37_X6_init : Ct mX6_init (SHF.take 139) (SHF.take 148) hp71 [pR (some 138)] (fun r h' => r = none ∧ h' = hp74) := by
  refine Ct.of (L := [some (pR (some 138))]) rfl rfl (Nat.le_of_ble_eq_true rfl) rfl ?_
  refine J_aload_n dX6_init_0 rfl ?_
  refine J_obj dX6_init_1 (lw_inG 521 (by decide +kernel) (by decide +kernel)) (lw_inG 134 (by decide +kernel) (by decide +kernel)) (lw_inG 135 (by decide +kernel) (by decide +kernel)) (Nat.le_of_ble_eq_true rfl) (Nat.le_of_ble_eq_true rfl) ?_
  refine J_aload_n dX6_init_4 rfl ?_
  refine J_iconstN (n := 0) dX6_init_5 ?_
  refine J_putI dX6_init_6 fX6_9 (TK_at s138 (by decide)) rfl rfl rfl (fun _ _ => rfl) ?_
  refine J_aload_n dX6_init_9 rfl ?_
  refine J_bipush (x := nI 7) dX6_init_10 (by decide) ?_
  refine J_iconstN (n := 4) dX6_init_12 ?_
  refine J_mna (kd := 7) (kr := 0) (n := 139) (N := 7) (K := 4) (ty := .int) dX6_init_13 (by decide) (lw_inG 522 (by decide +kernel) (by decide +kernel)) (by decide) (lw_inG 227 (by decide +kernel) (by decide +kernel)) (by decide) (by decide) (by decide) s139 (by decide) ⟨⟨by decide +kernel, by decide +kernel⟩, by decide +kernel, by decide +kernel⟩ ?_
  refine J_putFR dX6_init_17 fX6_17 (TK_at s138 (by decide)) rfl rfl rfl (Or.inr ⟨_, rfl⟩) ?_
  refine J_aload_n dX6_init_20 rfl ?_
  refine J_new (ci := 8) (n := 147) dX6_init_21 (lw_inG 523 (by decide +kernel) (by decide +kernel)) (lw_inG 382 (by decide +kernel) (by decide +kernel)) (lw_inG 117 (by decide +kernel) (by decide +kernel)) (by decide) s147 ⟨⟨by decide +kernel, by decide +kernel⟩, by decide +kernel, by decide +kernel⟩ ?_
  refine J_dup dX6_init_24 rfl ?_
  show J _ _ _ _ _ _ _ _ hp72
  refine J_callIN (c := 147) (as := []) (st := [pR (some 147), pR (some 138)]) dX6_init_25 lX6_22 okX8_init rfl iX8_init rfl rfl (Nat.le_of_ble_eq_true rfl) ⟨Nat.le_of_ble_eq_true rfl, Nat.le_of_ble_eq_true rfl⟩ ⟨⟨by decide +kernel, by decide +kernel⟩, ⟨by decide +kernel, by decide +kernel⟩, by decide +kernel, by decide +kernel⟩ ci36_X8_init (fun r h' q => ?_)
  obtain ⟨rfl, rfl⟩ := q
  show J _ _ _ _ _ _ [pR (some 147), pR (some 138)] _ _
  refine J_putFR dX6_init_28 fX6_23 (TK_at s138 (by decide)) rfl rfl rfl (Or.inl ⟨_, rfl⟩) ?_
  exact J_vreturn dX6_init_31 rfl ⟨rfl, rfl⟩
def hp75 : PH := (zc (sR hp74 127 (nI 1).toNatClampNeg (some 138)) 148)
def hp76 : PH := (zc (sR (mz (sI hp75 148 0 (nI 0)) 149 7) 148 4 (some 149)) 157)
def hp77 : PH := hp76
theorem ci38_X8_init : Ct mX8_init (SHF.take 158) (SHF.take 158) hp76 [pR (some 157)] (fun r h' => r = none ∧ h' = hp77) := by
  refine Ct.of (L := [some (pR (some 157))]) rfl rfl (Nat.le_of_ble_eq_true rfl) rfl ?_
  refine J_aload_n dX8_init_0 rfl ?_
  refine J_obj dX8_init_1 (lw_inG 386 (by decide +kernel) (by decide +kernel)) (lw_inG 134 (by decide +kernel) (by decide +kernel)) (lw_inG 135 (by decide +kernel) (by decide +kernel)) (Nat.le_of_ble_eq_true rfl) (Nat.le_of_ble_eq_true rfl) ?_
  exact J_vreturn dX8_init_4 rfl ⟨rfl, rfl⟩
def hp78 : PH := (sR hp77 148 6 (some 157))
theorem ci39_X6_init : Ct mX6_init (SHF.take 149) (SHF.take 158) hp75 [pR (some 148)] (fun r h' => r = none ∧ h' = hp78) := by
  refine Ct.of (L := [some (pR (some 148))]) rfl rfl (Nat.le_of_ble_eq_true rfl) rfl ?_
  refine J_aload_n dX6_init_0 rfl ?_
  refine J_obj dX6_init_1 (lw_inG 521 (by decide +kernel) (by decide +kernel)) (lw_inG 134 (by decide +kernel) (by decide +kernel)) (lw_inG 135 (by decide +kernel) (by decide +kernel)) (Nat.le_of_ble_eq_true rfl) (Nat.le_of_ble_eq_true rfl) ?_
  refine J_aload_n dX6_init_4 rfl ?_
  refine J_iconstN (n := 0) dX6_init_5 ?_
  refine J_putI dX6_init_6 fX6_9 (TK_at s148 (by decide)) rfl rfl rfl (fun _ _ => rfl) ?_
  refine J_aload_n dX6_init_9 rfl ?_
  refine J_bipush (x := nI 7) dX6_init_10 (by decide) ?_
  refine J_iconstN (n := 4) dX6_init_12 ?_
  refine J_mna (kd := 7) (kr := 0) (n := 149) (N := 7) (K := 4) (ty := .int) dX6_init_13 (by decide) (lw_inG 522 (by decide +kernel) (by decide +kernel)) (by decide) (lw_inG 227 (by decide +kernel) (by decide +kernel)) (by decide) (by decide) (by decide) s149 (by decide) ⟨⟨by decide +kernel, by decide +kernel⟩, by decide +kernel, by decide +kernel⟩ ?_
  refine J_putFR dX6_init_17 fX6_17 (TK_at s148 (by decide)) rfl rfl rfl (Or.inr ⟨_, rfl⟩) ?_
  refine J_aload_n dX6_init_20 rfl ?_
  refine J_new (ci := 8) (n := 157) dX6_init_21 (lw_inG 523 (by decide +kernel) (by decide +kernel)) (lw_inG 382 (by decide +kernel) (by decide +kernel)) (lw_inG 117 (by decide +kernel) (by decide +kernel)) (by decide) s157 ⟨⟨by decide +kernel, by decide +kernel⟩, by decide +kernel, by decide +kernel⟩ ?_
  refine J_dup dX6_init_24 rfl ?_
  show J _ _ _ _ _ _ _ _ hp76
  refine J_callIN (c := 157) (as := []) (st := [pR (some 157), pR (some 148)]) dX6_init_25 lX6_22 okX8_init rfl iX8_init rfl rfl (Nat.le_of_ble_eq_true rfl) ⟨Nat.le_of_ble_eq_true rfl, Nat.le_of_ble_eq_true rfl⟩ ⟨⟨by decide +kernel, by decide +kernel⟩, ⟨by decide +kernel, by decide +kernel⟩, by decide +kernel, by decide +kernel⟩ ci38_X8_init (fun r h' q => ?_)
  obtain ⟨rfl, rfl⟩ := q
  show J _ _ _ _ _ _ [pR (some 157), pR (some 148)] _ _
  refine J_putFR dX6_init_28 fX6_23 (TK_at s148 (by decide)) rfl rfl rfl (Or.inl ⟨_, rfl⟩) ?_
  exact J_vreturn dX6_init_31 rfl ⟨rfl, rfl⟩
def hp79 : PH := (sR hp78 127 (nI 2).toNatClampNeg (some 148))
theorem ci40_X9_init : Ct mX9_init (SHF.take 1) (SHF.take 158) hpA [pR (some 0)] (fun r h' => r = none ∧ h' = hp79) := by
  refine Ct.of (L := [some (pR (some 0)), none]) rfl rfl (Nat.le_of_ble_eq_true rfl) rfl ?_
  refine J_aload_n dX9_init_0 rfl ?_
  refine J_obj dX9_init_1 (lw_inG 133 (by decide +kernel) (by decide +kernel)) (lw_inG 134 (by decide +kernel) (by decide +kernel)) (lw_inG 135 (by decide +kernel) (by decide +kernel)) (Nat.le_of_ble_eq_true rfl) (Nat.le_of_ble_eq_true rfl) ?_
  refine J_aload_n dX9_init_4 rfl ?_
  refine J_sipush (x := nI 900) dX9_init_5 (by decide) ?_
  refine J_newa (kd := 1) (n := 1) (N := 900) dX9_init_8 (by decide) rfl (lw_inG 225 (by decide +kernel) (by decide +kernel)) (by decide) s1 ⟨⟨by decide +kernel, by decide +kernel⟩, by decide +kernel, by decide +kernel⟩ ?_
  refine J_putFR dX9_init_10 fX9_9 (TK_at s0 (by decide)) rfl rfl rfl (Or.inr ⟨_, rfl⟩) ?_
  refine J_aload_n dX9_init_13 rfl ?_
  refine J_iconstN (n := 0) dX9_init_14 ?_
  refine J_putI dX9_init_15 fX9_13 (TK_at s0 (by decide)) rfl rfl rfl (fun _ _ => rfl) ?_
  refine J_aload_n dX9_init_18 rfl ?_
  refine J_new (ci := 4) (n := 2) dX9_init_19 (lw_inG 136 (by decide +kernel) (by decide +kernel)) (lw_inG 137 (by decide +kernel) (by decide +kernel)) (lw_inG 112 (by decide +kernel) (by decide +kernel)) (by decide) s2 ⟨⟨by decide +kernel, by decide +kernel⟩, by decide +kernel, by decide +kernel⟩ ?_
  refine J_dup dX9_init_22 rfl ?_
  show J _ _ _ _ _ _ _ _ hp1
  refine J_callI (c := 2) (as := []) (st := [pR (some 2), pR (some 0)]) dX9_init_23 lX9_19 okX4_init rfl iX4_init rfl rfl (Nat.le_of_ble_eq_true rfl) ⟨Nat.le_of_ble_eq_true rfl, Nat.le_of_ble_eq_true rfl⟩ ⟨⟨by decide +kernel, by decide +kernel⟩, ⟨by decide +kernel, by decide +kernel⟩, by decide +kernel, by decide +kernel⟩ ci12_X4_init (fun r h' q => ?_)
  obtain ⟨rfl, rfl⟩ := q
  show J _ _ _ _ _ _ [pR (some 2), pR (some 0)] _ _
  refine J_putR dX9_init_26 fX9_20 (TK_at s0 (by decide)) rfl (Or.inl ⟨_, rfl⟩) ?_
  refine J_aload_n dX9_init_29 rfl ?_
  refine J_new (ci := 4) (n := 45) dX9_init_30 (lw_inG 136 (by decide +kernel) (by decide +kernel)) (lw_inG 137 (by decide +kernel) (by decide +kernel)) (lw_inG 112 (by decide +kernel) (by decide +kernel)) (by decide) s45 ⟨⟨by decide +kernel, by decide +kernel⟩, by decide +kernel, by decide +kernel⟩ ?_
  refine J_dup dX9_init_33 rfl ?_
  show J _ _ _ _ _ _ _ _ hp25
  refine J_callI (c := 45) (as := []) (st := [pR (some 45), pR (some 0)]) dX9_init_34 lX9_19 okX4_init rfl iX4_init rfl rfl (Nat.le_of_ble_eq_true rfl) ⟨Nat.le_of_ble_eq_true rfl, Nat.le_of_ble_eq_true rfl⟩ ⟨⟨by decide +kernel, by decide +kernel⟩, ⟨by decide +kernel, by decide +kernel⟩, by decide +kernel, by decide +kernel⟩ ci24_X4_init (fun r h' q => ?_)
  obtain ⟨rfl, rfl⟩ := q
  show J _ _ _ _ _ _ [pR (some 45), pR (some 0)] _ _
  refine J_putR dX9_init_37 fX9_24 (TK_at s0 (by decide)) rfl (Or.inl ⟨_, rfl⟩) ?_
  refine J_aload_n dX9_init_40 rfl ?_
  refine J_new (ci := 5) (n := 88) dX9_init_41 (lw_inG 324 (by decide +kernel) (by decide +kernel)) (lw_inG 325 (by decide +kernel) (by decide +kernel)) (lw_inG 115 (by decide +kernel) (by decide +kernel)) (by decide) s88 ⟨⟨by decide +kernel, by decide +kernel⟩, by decide +kernel, by decide +kernel⟩ ?_
  refine J_dup dX9_init_44 rfl ?_
  show J _ _ _ _ _ _ _ _ hp49
  refine J_callIN (c := 88) (as := []) (st := [pR (some 88), pR (some 0)]) dX9_init_45 lX9_29 okX5_init rfl iX5_init rfl rfl (Nat.le_of_ble_eq_true rfl) ⟨Nat.le_of_ble_eq_true rfl, Nat.le_of_ble_eq_true rfl⟩ ⟨⟨by decide +kernel, by decide +kernel⟩, ⟨by decide +kernel, by decide +kernel⟩, by decide +kernel, by decide +kernel⟩ ci25_X5_init (fun r h' q => ?_)
  obtain ⟨rfl, rfl⟩ := q
  show J _ _ _ _ _ _ [pR (some 88), pR (some 0)] _ _
  refine J_putFR dX9_init_48 fX9_30 (TK_at s0 (by decide)) rfl rfl rfl (Or.inl ⟨_, rfl⟩) ?_
  refine J_aload_n dX9_init_51 rfl ?_
  refine J_new (ci := 2) (n := 92) dX9_init_52 (lw_inG 375 (by decide +kernel) (by decide +kernel)) (lw_inG 376 (by decide +kernel) (by decide +kernel)) (lw_inG 116 (by decide +kernel) (by decide +kernel)) (by decide) s92 ⟨⟨by decide +kernel, by decide +kernel⟩, by decide +kernel, by decide +kernel⟩ ?_
  refine J_dup dX9_init_55 rfl ?_
  show J _ _ _ _ _ _ _ _ hp51
  refine J_callIN (c := 92) (as := []) (st := [pR (some 92), pR (some 0)]) dX9_init_56 lX9_36 okX2_init rfl iX2_init rfl rfl (Nat.le_of_ble_eq_true rfl) ⟨Nat.le_of_ble_eq_true rfl, Nat.le_of_ble_eq_true rfl⟩ ⟨⟨by decide +kernel, by decide +kernel⟩, ⟨by decide +kernel, by decide +kernel⟩, by decide +kernel, by decide +kernel⟩ ci27_X2_init (fun r h' q => ?_)
  obtain ⟨rfl, rfl⟩ := q
  show J _ _ _ _ _ _ [pR (some 92), pR (some 0)] _ _
  refine J_putFR dX9_init_59 fX9_37 (TK_at s0 (by decide)) rfl rfl rfl (Or.inl ⟨_, rfl⟩) ?_
  refine J_aload_n dX9_init_62 rfl ?_
  refine J_new (ci := 3) (n := 98) dX9_init_63 (lw_inG 468 (by decide +kernel) (by decide +kernel)) (lw_inG 469 (by decide +kernel) (by decide +kernel)) (lw_inG 118 (by decide +kernel) (by decide +kernel)) (by decide) s98 ⟨⟨by decide +kernel, by decide +kernel⟩, by decide +kernel, by decide +kernel⟩ ?_
  refine J_dup dX9_init_66 rfl ?_
  show J _ _ _ _ _ _ _ _ hp55
  refine J_callIN (c := 98) (as := []) (st := [pR (some 98), pR (some 0)]) dX9_init_67 lX9_43 okX3_init rfl iX3_init rfl rfl (Nat.le_of_ble_eq_true rfl) ⟨Nat.le_of_ble_eq_true rfl, Nat.le_of_ble_eq_true rfl⟩ ⟨⟨by decide +kernel, by decide +kernel⟩, ⟨by decide +kernel, by decide +kernel⟩, by decide +kernel, by decide +kernel⟩ ci30_X3_init (fun r h' q => ?_)
  obtain ⟨rfl, rfl⟩ := q
  show J _ _ _ _ _ _ [pR (some 98), pR (some 0)] _ _
  refine J_putFR dX9_init_70 fX9_44 (TK_at s0 (by decide)) rfl rfl rfl (Or.inl ⟨_, rfl⟩) ?_
  refine J_aload_n dX9_init_73 rfl ?_
  refine J_new (ci := 1) (n := 103) dX9_init_74 (lw_inG 492 (by decide +kernel) (by decide +kernel)) (lw_inG 493 (by decide +kernel) (by decide +kernel)) (lw_inG 119 (by decide +kernel) (by decide +kernel)) (by decide) s103 ⟨⟨by decide +kernel, by decide +kernel⟩, by decide +kernel, by decide +kernel⟩ ?_
  refine J_dup dX9_init_77 rfl ?_
  show J _ _ _ _ _ _ _ _ hp61
  refine J_callIN (c := 103) (as := []) (st := [pR (some 103), pR (some 0)]) dX9_init_78 lX9_50 okX1_init rfl iX1_init rfl rfl (Nat.le_of_ble_eq_true rfl) ⟨Nat.le_of_ble_eq_true rfl, Nat.le_of_ble_eq_true rfl⟩ ⟨⟨by decide +kernel, by decide +kernel⟩, ⟨by decide +kernel, by decide +kernel⟩, by decide +kernel, by decide +kernel⟩ ci31_X1_init (fun r h' q => ?_)
  obtain ⟨rfl, rfl⟩ := q
  show J _ _ _ _ _ _ [pR (some 103), pR (some 0)] _ _
  refine J_putFR dX9_init_81 fX9_51 (TK_at s0 (by decide)) rfl rfl rfl (Or.inl ⟨_, rfl⟩) ?_
  refine J_aload_n dX9_init_84 rfl ?_
  refine J_iconstN (n := 4) dX9_init_85 ?_
  refine J_newa (kd := 3) (n := 116) (N := 4) dX9_init_86 (by decide) rfl (lw_inG 226 (by decide +kernel) (by decide +kernel)) (by decide) s116 ⟨⟨by decide +kernel, by decide +kernel⟩, by decide +kernel, by decide +kernel⟩ ?_
  refine J_putFR dX9_init_88 fX9_55 (TK_at s0 (by decide)) rfl rfl rfl (Or.inr ⟨_, rfl⟩) ?_
  refine J_aload_n dX9_init_91 rfl ?_
  refine J_new (ci := 6) (n := 117) dX9_init_92 (lw_inG 516 (by decide +kernel) (by decide +kernel)) (lw_inG 517 (by decide +kernel) (by decide +kernel)) (lw_inG 120 (by decide +kernel) (by decide +kernel)) (by decide) s117 ⟨⟨by decide +kernel, by decide +kernel⟩, by decide +kernel, by decide +kernel⟩ ?_
  refine J_dup dX9_init_95 rfl ?_
  show J _ _ _ _ _ _ _ _ hp63
  refine J_callIN (c := 117) (as := []) (st := [pR (some 117), pR (some 0)]) dX9_init_96 lX9_61 okX6_init rfl iX6_init rfl rfl (Nat.le_of_ble_eq_true rfl) ⟨Nat.le_of_ble_eq_true rfl, Nat.le_of_ble_eq_true rfl⟩ ⟨⟨by decide +kernel, by decide +kernel⟩, ⟨by decide +kernel, by decide +kernel⟩, by decide +kernel, by decide +kernel⟩ ci33_X6_init (fun r h' q => ?_)
  obtain ⟨rfl, rfl⟩ := q
  show J _ _ _ _ _ _ [pR (some 117), pR (some 0)] _ _
  refine J_putFR dX9_init_99 fX9_62 (TK_at s0 (by decide)) rfl rfl rfl (Or.inl ⟨_, rfl⟩) ?_
  refine J_aload_n dX9_init_102 rfl ?_
  refine J_iconstN (n := 3) dX9_init_103 ?_
  refine J_newq (kd := 6) (n := 127) (N := 3) (Cn := "LastBoat$Run") dX9_init_104 (by decide) rfl (lw_inG 516 (by decide +kernel) (by decide +kernel)) (by decide) (by decide) s127 ⟨⟨by decide +kernel, by decide +kernel⟩, by decide +kernel, by decide +kernel⟩ ?_
  refine J_putFR dX9_init_107 fX9_66 (TK_at s0 (by decide)) rfl rfl rfl (Or.inr ⟨_, rfl⟩) ?_
  refine J_iconstN (n := 0) dX9_init_110 ?_
  refine J_istore_n (L' := [some (pR (some 0)), some (pI (nI 0))]) dX9_init_111 (by decide) rfl ?_
  refine J_iload_n dX9_init_112 rfl ?_
  refine J_iconstN (n := 3) dX9_init_113 ?_
  refine J_icmp_geN dX9_init_114 (by decide) (by decide) (fun c0 => absurd c0 (by decide)) (fun c0 => ?_)
  refine J_aload_n dX9_init_117 rfl ?_
  refine J_getR (r := some 127) dX9_init_118 fX9_66 (TK_at s0 (by decide)) (fun _ => rfl) (by decide +kernel) ?_
  refine J_iload_n dX9_init_121 rfl ?_
  refine J_new (ci := 6) (n := 128) dX9_init_122 (lw_inG 516 (by decide +kernel) (by decide +kernel)) (lw_inG 517 (by decide +kernel) (by decide +kernel)) (lw_inG 120 (by decide +kernel) (by decide +kernel)) (by decide) s128 ⟨⟨by decide +kernel, by decide +kernel⟩, by decide +kernel, by decide +kernel⟩ ?_
  refine J_dup dX9_init_125 rfl ?_
  show J _ _ _ _ _ _ _ _ hp67
  refine J_callIN (c := 128) (as := []) (st := [pR (some 128), pI (nI 0), pR (some 127)]) dX9_init_126 lX9_61 okX6_init rfl iX6_init rfl rfl (Nat.le_of_ble_eq_true rfl) ⟨Nat.le_of_ble_eq_true rfl, Nat.le_of_ble_eq_true rfl⟩ ⟨⟨by decide +kernel, by decide +kernel⟩, ⟨by decide +kernel, by decide +kernel⟩, by decide +kernel, by decide +kernel⟩ ci35_X6_init (fun r h' q => ?_)
  obtain ⟨rfl, rfl⟩ := q
  show J _ _ _ _ _ _ [pR (some 128), pI (nI 0), pR (some 127)] _ _
  refine J_aast (kd := 6) (ci := 6) dX9_init_129 (by decide) (by decide) rfl (TK_at s127 (by decide)) (TK_at s128 (by decide)) (by unfold vp_in; decide) ?_
  refine J_iinc (y := nI 1) (L' := [some (pR (some 0)), some (pI (nI 1))]) dX9_init_130 rfl (by decide) (by decide) rfl ?_
  refine J_goto dX9_init_133 ?_
  refine J_iload_n dX9_init_112 rfl ?_
  refine J_iconstN (n := 3) dX9_init_113 ?_
  refine J_icmp_geN dX9_init_114 (by decide) (by decide) (fun c0 => absurd c0 (by decide)) (fun c0 => ?_)
  refine J_aload_n dX9_init_117 rfl ?_
  refine J_getR (r := some 127) dX9_init_118 fX9_66 (TK_at s0 (by decide)) (fun _ => rfl) (by decide +kernel) ?_
  refine J_iload_n dX9_init_121 rfl ?_
  refine J_new (ci := 6) (n := 138) dX9_init_122 (lw_inG 516 (by decide +kernel) (by decide +kernel)) (lw_inG 517 (by decide +kernel) (by decide +kernel)) (lw_inG 120 (by decide +kernel) (by decide +kernel)) (by decide) s138 ⟨⟨by decide +kernel, by decide +kernel⟩, by decide +kernel, by decide +kernel⟩ ?_
  refine J_dup dX9_init_125 rfl ?_
  show J _ _ _ _ _ _ _ _ hp71
  refine J_callIN (c := 138) (as := []) (st := [pR (some 138), pI (nI 1), pR (some 127)]) dX9_init_126 lX9_61 okX6_init rfl iX6_init rfl rfl (Nat.le_of_ble_eq_true rfl) ⟨Nat.le_of_ble_eq_true rfl, Nat.le_of_ble_eq_true rfl⟩ ⟨⟨by decide +kernel, by decide +kernel⟩, ⟨by decide +kernel, by decide +kernel⟩, by decide +kernel, by decide +kernel⟩ ci37_X6_init (fun r h' q => ?_)
  obtain ⟨rfl, rfl⟩ := q
  show J _ _ _ _ _ _ [pR (some 138), pI (nI 1), pR (some 127)] _ _
  refine J_aast (kd := 6) (ci := 6) dX9_init_129 (by decide) (by decide) rfl (TK_at s127 (by decide)) (TK_at s138 (by decide)) (by unfold vp_in; decide) ?_
  refine J_iinc (y := nI 2) (L' := [some (pR (some 0)), some (pI (nI 2))]) dX9_init_130 rfl (by decide) (by decide) rfl ?_
  refine J_goto dX9_init_133 ?_
  refine J_iload_n dX9_init_112 rfl ?_
  refine J_iconstN (n := 3) dX9_init_113 ?_
  refine J_icmp_geN dX9_init_114 (by decide) (by decide) (fun c0 => absurd c0 (by decide)) (fun c0 => ?_)
  refine J_aload_n dX9_init_117 rfl ?_
  refine J_getR (r := some 127) dX9_init_118 fX9_66 (TK_at s0 (by decide)) (fun _ => rfl) (by decide +kernel) ?_
  refine J_iload_n dX9_init_121 rfl ?_
  refine J_new (ci := 6) (n := 148) dX9_init_122 (lw_inG 516 (by decide +kernel) (by decide +kernel)) (lw_inG 517 (by decide +kernel) (by decide +kernel)) (lw_inG 120 (by decide +kernel) (by decide +kernel)) (by decide) s148 ⟨⟨by decide +kernel, by decide +kernel⟩, by decide +kernel, by decide +kernel⟩ ?_
  refine J_dup dX9_init_125 rfl ?_
  show J _ _ _ _ _ _ _ _ hp75
  refine J_callIN (c := 148) (as := []) (st := [pR (some 148), pI (nI 2), pR (some 127)]) dX9_init_126 lX9_61 okX6_init rfl iX6_init rfl rfl (Nat.le_of_ble_eq_true rfl) ⟨Nat.le_of_ble_eq_true rfl, Nat.le_of_ble_eq_true rfl⟩ ⟨⟨by decide +kernel, by decide +kernel⟩, ⟨by decide +kernel, by decide +kernel⟩, by decide +kernel, by decide +kernel⟩ ci39_X6_init (fun r h' q => ?_)
  obtain ⟨rfl, rfl⟩ := q
  show J _ _ _ _ _ _ [pR (some 148), pI (nI 2), pR (some 127)] _ _
  refine J_aast (kd := 6) (ci := 6) dX9_init_129 (by decide) (by decide) rfl (TK_at s127 (by decide)) (TK_at s148 (by decide)) (by unfold vp_in; decide) ?_
  refine J_iinc (y := nI 3) (L' := [some (pR (some 0)), some (pI (nI 3))]) dX9_init_130 rfl (by decide) (by decide) rfl ?_
  refine J_goto dX9_init_133 ?_
  refine J_iload_n dX9_init_112 rfl ?_
  refine J_iconstN (n := 3) dX9_init_113 ?_
  refine J_icmp_geN dX9_init_114 (by decide) (by decide) (fun c0 => ?_) (fun c0 => absurd c0 (by decide))
  exact J_vreturn dX9_init_136 rfl ⟨rfl, rfl⟩
