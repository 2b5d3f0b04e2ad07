/-! ===== the law: its loop, its beginning ===== -/
section JX
variable {Ln : Nat} {xs : Nat → Int32}
theorem law_sw {j : Nat} {A : AS} {h : PH} {x : Int32} (hL : Ln ≤ 3584) (hj : 7 * j + 7 ≤ Ln) (S : St h A) (kk : ∀ A' h', St h' A' → J mL_law room_1 [] (ZW Ln xs) 1332 (LW j) [] SHF h') : J mL_law room_1 [] (ZW Ln xs) 33 (LW j) [pI x] SHF h := by
  rcases (show (x.toInt < 0 ∨ 32 < x.toInt) ∨ x.toInt = 0 ∨ x.toInt = 1 ∨ x.toInt = 2 ∨ x.toInt = 3 ∨ x.toInt = 4 ∨ x.toInt = 5 ∨ x.toInt = 6 ∨ x.toInt = 7 ∨ x.toInt = 8 ∨ x.toInt = 9 ∨ x.toInt = 10 ∨ x.toInt = 11 ∨ x.toInt = 12 ∨ x.toInt = 13 ∨ x.toInt = 14 ∨ x.toInt = 15 ∨ x.toInt = 16 ∨ x.toInt = 17 ∨ x.toInt = 18 ∨ x.toInt = 19 ∨ x.toInt = 20 ∨ x.toInt = 21 ∨ x.toInt = 22 ∨ x.toInt = 23 ∨ x.toInt = 24 ∨ x.toInt = 25 ∨ x.toInt = 26 ∨ x.toInt = 27 ∨ x.toInt = 28 ∨ x.toInt = 29 ∨ x.toInt = 30 ∨ x.toInt = 31 ∨ x.toInt = 32 by omega) with e | e | e | e | e | e | e | e | e | e | e | e | e | e | e | e | e | e | e | e | e | e | e | e | e | e | e | e | e | e | e | e | e | e
  · exact J_tabOut (tgt := 1332) dL_law_33 e rfl (kk A h S)
  · exact J_tabIn (tgt := 180) (0) dL_law_33 e (by decide) (by decide) rfl rfl (law_c0 hL hj S kk)
  · exact J_tabIn (tgt := 243) (1) dL_law_33 e (by decide) (by decide) rfl rfl (law_c1 hL hj S kk)
  · exact J_tabIn (tgt := 266) (2) dL_law_33 e (by decide) (by decide) rfl rfl (law_c2 hL hj S kk)
  · exact J_tabIn (tgt := 279) (3) dL_law_33 e (by decide) (by decide) rfl rfl (law_c3 hL hj S kk)
  · exact J_tabIn (tgt := 302) (4) dL_law_33 e (by decide) (by decide) rfl rfl (law_c4 hL hj S kk)
  · exact J_tabIn (tgt := 325) (5) dL_law_33 e (by decide) (by decide) rfl rfl (law_c5 hL hj S kk)
  · exact J_tabIn (tgt := 368) (6) dL_law_33 e (by decide) (by decide) rfl rfl (law_c6 hL hj S kk)
  · exact J_tabIn (tgt := 401) (7) dL_law_33 e (by decide) (by decide) rfl rfl (law_c7 hL hj S kk)
  · exact J_tabIn (tgt := 444) (8) dL_law_33 e (by decide) (by decide) rfl rfl (law_c8 hL hj S kk)
  · exact J_tabIn (tgt := 498) (9) dL_law_33 e (by decide) (by decide) rfl rfl (law_c9 hL hj S kk)
  · exact J_tabIn (tgt := 542) (10) dL_law_33 e (by decide) (by decide) rfl rfl (law_c10 hL hj S kk)
  · exact J_tabIn (tgt := 612) (11) dL_law_33 e (by decide) (by decide) rfl rfl (law_c11 hL hj S kk)
  · exact J_tabIn (tgt := 635) (12) dL_law_33 e (by decide) (by decide) rfl rfl (law_c12 hL hj S kk)
  · exact J_tabIn (tgt := 668) (13) dL_law_33 e (by decide) (by decide) rfl rfl (law_c13 hL hj S kk)
  · exact J_tabIn (tgt := 701) (14) dL_law_33 e (by decide) (by decide) rfl rfl (law_c14 hL hj S kk)
  · exact J_tabIn (tgt := 745) (15) dL_law_33 e (by decide) (by decide) rfl rfl (law_c15 hL hj S kk)
  · exact J_tabIn (tgt := 759) (16) dL_law_33 e (by decide) (by decide) rfl rfl (law_c16 hL hj S kk)
  · exact J_tabIn (tgt := 782) (17) dL_law_33 e (by decide) (by decide) rfl rfl (law_c17 hL hj S kk)
  · exact J_tabIn (tgt := 795) (18) dL_law_33 e (by decide) (by decide) rfl rfl (law_c18 hL hj S kk)
  · exact J_tabIn (tgt := 849) (19) dL_law_33 e (by decide) (by decide) rfl rfl (law_c19 hL hj S kk)
  · exact J_tabIn (tgt := 899) (20) dL_law_33 e (by decide) (by decide) rfl rfl (law_c20 hL hj S kk)
  · exact J_tabIn (tgt := 922) (21) dL_law_33 e (by decide) (by decide) rfl rfl (law_c21 hL hj S kk)
  · exact J_tabIn (tgt := 998) (22) dL_law_33 e (by decide) (by decide) rfl rfl (law_c22 hL hj S kk)
  · exact J_tabIn (tgt := 1061) (23) dL_law_33 e (by decide) (by decide) rfl rfl (law_c23 hL hj S kk)
  · exact J_tabIn (tgt := 1105) (24) dL_law_33 e (by decide) (by decide) rfl rfl (law_c24 hL hj S kk)
  · exact J_tabIn (tgt := 1138) (25) dL_law_33 e (by decide) (by decide) rfl rfl (law_c25 hL hj S kk)
  · exact J_tabIn (tgt := 1161) (26) dL_law_33 e (by decide) (by decide) rfl rfl (law_c26 hL hj S kk)
  · exact J_tabIn (tgt := 1184) (27) dL_law_33 e (by decide) (by decide) rfl rfl (law_c27 hL hj S kk)
  · exact J_tabIn (tgt := 1207) (28) dL_law_33 e (by decide) (by decide) rfl rfl (law_c28 hL hj S kk)
  · exact J_tabIn (tgt := 1240) (29) dL_law_33 e (by decide) (by decide) rfl rfl (law_c29 hL hj S kk)
  · exact J_tabIn (tgt := 1263) (30) dL_law_33 e (by decide) (by decide) rfl rfl (law_c30 hL hj S kk)
  · exact J_tabIn (tgt := 1286) (31) dL_law_33 e (by decide) (by decide) rfl rfl (law_c31 hL hj S kk)
  · exact J_tabIn (tgt := 1309) (32) dL_law_33 e (by decide) (by decide) rfl rfl (law_c32 hL hj S kk)
theorem law_loop (hL : Ln ≤ 3584) : ∀ (j : Nat) (A : AS) (h : PH), j ≤ Ln / 7 → St h A → J mL_law room_1 [] (ZW Ln xs) 18 (LW j) [] SHF h := by
  refine J_forI (L := fun j _ => LW j) (fun _ A h => St h A) (fun A h S => ?_) (fun j A h hj S kk => ?_)
  · refine J_iload_n dL_law_18 rfl ?_
    refine J_xload_n dL_law_19 rfl ?_
    refine J_slen dL_law_20 ?_
    refine J_bipush (x := nI 7) dL_law_21 (by decide) ?_
    refine J_isub dL_law_23 ?_
    refine J_icmp_gt dL_law_24 (fun _ => ?_) (fun z => absurd ((law_cmp hL (by omega)).mpr (by omega)) z)
    refine J_iconstN (n := 1) dL_law_1338 ?_
    exact J_end dL_law_1339 (by decide +kernel) (by decide +kernel)
  · refine J_iload_n dL_law_18 rfl ?_
    refine J_xload_n dL_law_19 rfl ?_
    refine J_slen dL_law_20 ?_
    refine J_bipush (x := nI 7) dL_law_21 (by decide) ?_
    refine J_isub dL_law_23 ?_
    refine J_icmp_gt dL_law_24 (fun z => absurd ((law_cmp hL (by omega)).mp z) (by omega)) (fun _ => ?_)
    refine J_xload_n dL_law_27 rfl ?_
    refine J_iload_n dL_law_28 rfl ?_
    refine J_sldN dL_law_29 (by omega) hL ?_
    refine J_bipush (x := nI 63) dL_law_30 (by decide) ?_
    refine J_iand dL_law_32 ?_
    refine law_sw hL (by omega) S (fun A' h' S' => ?_)
    refine J_iincN (n := 7) dL_law_1332 rfl (by decide) rfl ?_
    exact J_goto dL_law_1335 (kk A' h' S')
theorem law_start (hL : Ln ≤ 3584) : J mL_law room_1 [] (ZW Ln xs) 0 [some (pX 31), none, none, none] [] (SHF.take 0) hp0 := by
  refine J_new (ci := 9) (n := 0) dL_law_0 (lw_inG 128 (by decide +kernel) (by decide +kernel)) (lw_inG 129 (by decide +kernel) (by decide +kernel)) (lw_inG 111 (by decide +kernel) (by decide +kernel)) (by decide) s0 ⟨⟨by decide +kernel, by decide +kernel⟩, by decide +kernel, by decide +kernel⟩ ?_
  refine J_dup dL_law_3 rfl ?_
  refine J_callI (c := 0) (as := []) (st := [pR (some 0)]) dL_law_4 lL_9 okX9_init rfl iX9_init rfl rfl (Nat.le_of_ble_eq_true rfl) ⟨Nat.le_of_ble_eq_true rfl, Nat.le_of_ble_eq_true rfl⟩ ⟨⟨by decide +kernel, by decide +kernel⟩, ⟨by decide +kernel, by decide +kernel⟩, by decide +kernel, by decide +kernel⟩ ci40_X9_init (fun r h' q => ?_)
  obtain ⟨rfl, rfl⟩ := q
  show J _ _ _ _ _ _ [pR (some 0)] _ _
  refine J_astore_n dL_law_7 (by decide) rfl ?_
  refine J_new (ci := 10) (n := 158) dL_law_8 (lw_inG 1197 (by decide +kernel) (by decide +kernel)) (lw_inG 1198 (by decide +kernel) (by decide +kernel)) (lw_inG 121 (by decide +kernel) (by decide +kernel)) (by decide) s158 ⟨⟨by decide +kernel, by decide +kernel⟩, by decide +kernel, by decide +kernel⟩ ?_
  refine J_dup dL_law_11 rfl ?_
  refine J_callI (c := 158) (as := []) (st := [pR (some 158)]) dL_law_12 lL_12 okX10_init rfl iX10_init rfl rfl (Nat.le_of_ble_eq_true rfl) ⟨Nat.le_of_ble_eq_true rfl, Nat.le_of_ble_eq_true rfl⟩ ⟨⟨by decide +kernel, by decide +kernel⟩, ⟨by decide +kernel, by decide +kernel⟩, by decide +kernel, by decide +kernel⟩ ci_X10_init (fun r h' q => ?_)
  obtain ⟨rfl, S⟩ := q
  show J _ _ _ _ _ _ [pR (some 158)] _ _
  refine J_astore_n dL_law_15 (by decide) rfl ?_
  refine J_iconstN (n := 0) dL_law_16 ?_
  refine J_istore_n dL_law_17 (by decide) rfl ?_
  exact law_loop hL 0 A00 h' (Nat.zero_le _) S
end JX
