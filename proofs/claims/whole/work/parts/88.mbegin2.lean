/-! ===== the model's draft begins ===== -/
def Bq (i : Nat) (h h' : PH) : Prop := (∀ c, c ≠ 160 → c ≠ 166 → c ≠ 167 → h'.1 c = h.1 c) ∧ h'.2 = h.2 ∧ (∀ k, k < 5 → h'.1 160 k = h.1 160 k) ∧ (h'.1 160 5 = nI 4 ∧ h'.1 160 6 = nI 40 ∧ h'.1 160 7 = nI 0 ∧ h'.1 160 8 = nI 0 ∧ h'.1 160 9 = nI 0) ∧ (∀ k, k < 80 → h'.1 166 k = h.1 166 k) ∧ (∀ y, y < i → ∀ n, n < 5 → h'.1 166 (80 + 5 * y + n) = nI (if n = 0 then 10 else 0)) ∧ ∀ y, y < i → h'.1 167 y = nI 0
theorem Bq.g {i : Nat} {h h' : PH} (a : Bq i h h') (hG : GR h.2.2) : GR h'.2.2 := by rw [a.2.1]; exact hG
theorem Bq.n {i : Nat} {h h' : PH} {x : Int32} (a : Bq i h h') (hx : x = nI 0) : Bq (i + 1) h (sI (sI (sI (sI (sI (sI h' 167 i x) 166 (80 + 5 * i + 0) (nI 10)) 166 (80 + 5 * i + 1) (nI 0)) 166 (80 + 5 * i + 2) (nI 0)) 166 (80 + 5 * i + 3) (nI 0)) 166 (80 + 5 * i + 4) (nI 0)) := by
  obtain ⟨a1, a2, a3, ⟨b5, b6, b7, b8, b9⟩, a5, a6, a7⟩ := a
  have F : ∀ c k, c ≠ 166 → c ≠ 167 → (sI (sI (sI (sI (sI (sI h' 167 i x) 166 (80 + 5 * i + 0) (nI 10)) 166 (80 + 5 * i + 1) (nI 0)) 166 (80 + 5 * i + 2) (nI 0)) 166 (80 + 5 * i + 3) (nI 0)) 166 (80 + 5 * i + 4) (nI 0)).1 c k = h'.1 c k := fun c k z1 z2 => (rI_c z1).trans ((rI_c z1).trans ((rI_c z1).trans ((rI_c z1).trans ((rI_c z1).trans (rI_c z2)))))
  refine ⟨fun c z0 z1 z2 => funext (fun k => (F c k z1 z2).trans (congrFun (a1 c z0 z1 z2) k)), a2, fun k hk => (F 160 k (by decide) (by decide)).trans (a3 k hk), ⟨(F 160 5 (by decide) (by decide)).trans b5, (F 160 6 (by decide) (by decide)).trans b6, (F 160 7 (by decide) (by decide)).trans b7, (F 160 8 (by decide) (by decide)).trans b8, (F 160 9 (by decide) (by decide)).trans b9⟩, fun k hk => (rI_k (by omega)).trans ((rI_k (by omega)).trans ((rI_k (by omega)).trans ((rI_k (by omega)).trans ((rI_k (by omega)).trans ((rI_c (by decide)).trans (a5 k hk)))))), fun y hy n hn => ?_, fun y hy => ?_⟩
  · by_cases q : y = i
    · subst q
      have z : n = 0 ∨ n = 1 ∨ n = 2 ∨ n = 3 ∨ n = 4 := by omega
      rcases z with rfl | rfl | rfl | rfl | rfl
      · exact (rI_k (by omega)).trans ((rI_k (by omega)).trans ((rI_k (by omega)).trans ((rI_k (by omega)).trans (rI_s))))
      · exact (rI_k (by omega)).trans ((rI_k (by omega)).trans ((rI_k (by omega)).trans (rI_s)))
      · exact (rI_k (by omega)).trans ((rI_k (by omega)).trans (rI_s))
      · exact (rI_k (by omega)).trans (rI_s)
      · exact rI_s
    · exact (rI_k (by omega)).trans ((rI_k (by omega)).trans ((rI_k (by omega)).trans ((rI_k (by omega)).trans ((rI_k (by omega)).trans ((rI_c (by decide)).trans (a6 y (by omega) n hn))))))
  · refine (rI_c (by decide)).trans ((rI_c (by decide)).trans ((rI_c (by decide)).trans ((rI_c (by decide)).trans ((rI_c (by decide)).trans ?_))))
    by_cases q : y = i
    · rw [q]
      exact rI_s.trans hx
    · exact (rI_k q).trans (a7 y (by omega))
theorem c_X10_begin {h : PH} (hG : GR h.2.2) : CtV mX10_begin h [pR (some 158)] (fun h' => ∃ g, Bq 16 h g ∧ h' = sI (sI (sI (sI (sI g 168 (4 + 0) (-1)) 168 (4 + 1) (-1)) 168 (4 + 2) (-1)) 168 (4 + 3) (-1)) 158 24 (nI 0)) := by
  have hG0 := hG
  refine Ct.of (L := [some (pR (some 158)), none, none]) rfl rfl (Nat.le_of_ble_eq_true rfl) rfl ?_
  refine J_iconstN (n := 0) dX10_begin_0 ?_
  refine J_istore_n (L' := [some (pR (some 158)), some (pI (nI 0)), none]) dX10_begin_1 (by decide) rfl ?_
  refine J_iload_n dX10_begin_2 rfl ?_
  refine J_iconstN (n := 5) dX10_begin_3 ?_
  refine J_icmp_geN dX10_begin_4 (by decide) (by decide) (fun c0 => absurd c0 (by decide)) (fun c0 => ?_)
  refine J_aload_n dX10_begin_7 rfl ?_
  refine J_getR (r := some 160) dX10_begin_8 fX10_17 s158 (fun _ => rfl) (g158_12 hG) ?_
  refine J_iconstN (n := 5) dX10_begin_11 ?_
  refine J_iload_n dX10_begin_12 rfl ?_
  refine J_iaddN dX10_begin_13 ?_
  refine J_iconstN (n := 0) dX10_begin_14 ?_
  refine J_iastN dX10_begin_15 s160 (by decide) (by omega) ?_
  refine J_iinc (y := nI 1) (L' := [some (pR (some 158)), some (pI (nI 1)), none]) dX10_begin_16 rfl (by decide) (by decide) rfl ?_
  refine J_goto dX10_begin_19 ?_
  refine J_iload_n dX10_begin_2 rfl ?_
  refine J_iconstN (n := 5) dX10_begin_3 ?_
  refine J_icmp_geN dX10_begin_4 (by decide) (by decide) (fun c0 => absurd c0 (by decide)) (fun c0 => ?_)
  refine J_aload_n dX10_begin_7 rfl ?_
  refine J_getR (r := some 160) dX10_begin_8 fX10_17 s158 (fun _ => rfl) ((xRI).trans (g158_12 hG)) ?_
  refine J_iconstN (n := 5) dX10_begin_11 ?_
  refine J_iload_n dX10_begin_12 rfl ?_
  refine J_iaddN dX10_begin_13 ?_
  refine J_iconstN (n := 0) dX10_begin_14 ?_
  refine J_iastN dX10_begin_15 s160 (by decide) (by omega) ?_
  refine J_iinc (y := nI 2) (L' := [some (pR (some 158)), some (pI (nI 2)), none]) dX10_begin_16 rfl (by decide) (by decide) rfl ?_
  refine J_goto dX10_begin_19 ?_
  refine J_iload_n dX10_begin_2 rfl ?_
  refine J_iconstN (n := 5) dX10_begin_3 ?_
  refine J_icmp_geN dX10_begin_4 (by decide) (by decide) (fun c0 => absurd c0 (by decide)) (fun c0 => ?_)
  refine J_aload_n dX10_begin_7 rfl ?_
  refine J_getR (r := some 160) dX10_begin_8 fX10_17 s158 (fun _ => rfl) ((xRI).trans ((xRI).trans (g158_12 hG))) ?_
  refine J_iconstN (n := 5) dX10_begin_11 ?_
  refine J_iload_n dX10_begin_12 rfl ?_
  refine J_iaddN dX10_begin_13 ?_
  refine J_iconstN (n := 0) dX10_begin_14 ?_
  refine J_iastN dX10_begin_15 s160 (by decide) (by omega) ?_
  refine J_iinc (y := nI 3) (L' := [some (pR (some 158)), some (pI (nI 3)), none]) dX10_begin_16 rfl (by decide) (by decide) rfl ?_
  refine J_goto dX10_begin_19 ?_
  refine J_iload_n dX10_begin_2 rfl ?_
  refine J_iconstN (n := 5) dX10_begin_3 ?_
  refine J_icmp_geN dX10_begin_4 (by decide) (by decide) (fun c0 => absurd c0 (by decide)) (fun c0 => ?_)
  refine J_aload_n dX10_begin_7 rfl ?_
  refine J_getR (r := some 160) dX10_begin_8 fX10_17 s158 (fun _ => rfl) ((xRI).trans ((xRI).trans ((xRI).trans (g158_12 hG)))) ?_
  refine J_iconstN (n := 5) dX10_begin_11 ?_
  refine J_iload_n dX10_begin_12 rfl ?_
  refine J_iaddN dX10_begin_13 ?_
  refine J_iconstN (n := 0) dX10_begin_14 ?_
  refine J_iastN dX10_begin_15 s160 (by decide) (by omega) ?_
  refine J_iinc (y := nI 4) (L' := [some (pR (some 158)), some (pI (nI 4)), none]) dX10_begin_16 rfl (by decide) (by decide) rfl ?_
  refine J_goto dX10_begin_19 ?_
  refine J_iload_n dX10_begin_2 rfl ?_
  refine J_iconstN (n := 5) dX10_begin_3 ?_
  refine J_icmp_geN dX10_begin_4 (by decide) (by decide) (fun c0 => absurd c0 (by decide)) (fun c0 => ?_)
  refine J_aload_n dX10_begin_7 rfl ?_
  refine J_getR (r := some 160) dX10_begin_8 fX10_17 s158 (fun _ => rfl) ((xRI).trans ((xRI).trans ((xRI).trans ((xRI).trans (g158_12 hG))))) ?_
  refine J_iconstN (n := 5) dX10_begin_11 ?_
  refine J_iload_n dX10_begin_12 rfl ?_
  refine J_iaddN dX10_begin_13 ?_
  refine J_iconstN (n := 0) dX10_begin_14 ?_
  refine J_iastN dX10_begin_15 s160 (by decide) (by omega) ?_
  refine J_iinc (y := nI 5) (L' := [some (pR (some 158)), some (pI (nI 5)), none]) dX10_begin_16 rfl (by decide) (by decide) rfl ?_
  refine J_goto dX10_begin_19 ?_
  refine J_iload_n dX10_begin_2 rfl ?_
  refine J_iconstN (n := 5) dX10_begin_3 ?_
  refine J_icmp_geN dX10_begin_4 (by decide) (by decide) (fun c0 => ?_) (fun c0 => absurd c0 (by decide))
  refine J_aload_n dX10_begin_22 rfl ?_
  refine J_getR (r := some 160) dX10_begin_23 fX10_17 s158 (fun _ => rfl) ((xRI).trans ((xRI).trans ((xRI).trans ((xRI).trans ((xRI).trans (g158_12 hG)))))) ?_
  refine J_iconstN (n := 5) dX10_begin_26 ?_
  refine J_iconstN (n := 4) dX10_begin_27 ?_
  refine J_iastN dX10_begin_28 s160 (by decide) (by omega) ?_
  refine J_aload_n dX10_begin_29 rfl ?_
  refine J_getR (r := some 160) dX10_begin_30 fX10_17 s158 (fun _ => rfl) ((xRI).trans ((xRI).trans ((xRI).trans ((xRI).trans ((xRI).trans ((xRI).trans (g158_12 hG))))))) ?_
  refine J_bipush (x := nI 6) dX10_begin_33 (by decide) ?_
  refine J_bipush (x := nI 40) dX10_begin_35 (by decide) ?_
  refine J_iastN dX10_begin_37 s160 (by decide) (by omega) ?_
  refine J_iconstN (n := 0) dX10_begin_38 ?_
  refine J_istore_n (L' := [some (pR (some 158)), some (pI (nI 0)), none]) dX10_begin_39 (by decide) rfl ?_
  refine J_L (L' := [some (pR (some 158)), some (pI (nI 0)), none]) rfl ?_
  refine J_forI (α := Unit) (L := fun i1 aa1 => [some (pR (some 158)), some (pI (nI i1)), none]) (fun i1 aa1 h1 => Bq i1 h h1) (e := 16) (fun aa1 h1 hI1 => ?_) (fun i1 aa1 h1 hi1 hI1 ih1 => ?_) 0 (()) _ (by omega) (⟨fun c z0 _ _ => (rW_c z0).trans ((rW_c z0).trans ((rW_c z0).trans ((rW_c z0).trans ((rW_c z0).trans ((rW_c z0).trans ((rW_c z0))))))), rfl, fun k hk => (rI_k (by omega)).trans ((rI_k (by omega)).trans ((rI_k (by omega)).trans ((rI_k (by omega)).trans ((rI_k (by omega)).trans ((rI_k (by omega)).trans (rI_k (by omega))))))), ⟨(rI_k (by decide)).trans (rI_s), rI_s, (rI_k (by decide)).trans ((rI_k (by decide)).trans ((rI_k (by decide)).trans ((rI_k (by decide)).trans (rI_s)))), (rI_k (by decide)).trans ((rI_k (by decide)).trans ((rI_k (by decide)).trans (rI_s))), (rI_k (by decide)).trans ((rI_k (by decide)).trans (rI_s))⟩, fun _ _ => rfl, fun y hy => absurd hy (Nat.not_lt_zero y), fun y hy => absurd hy (Nat.not_lt_zero y)⟩)
  · show J _ _ _ _ _ [some (pR (some 158)), some (pI (nI 16)), none] _ _ h1
    have hG := hI1.g hG0
    refine J_iload_n dX10_begin_40 rfl ?_
    refine J_bipush (x := nI 16) dX10_begin_41 (by decide) ?_
    refine J_icmp_geN dX10_begin_43 (by decide) (by decide) (fun c0 => ?_) (fun c0 => absurd c0 (by decide))
    refine J_iconstN (n := 0) dX10_begin_95 ?_
    refine J_istore_n (L' := [some (pR (some 158)), some (pI (nI 0)), none]) dX10_begin_96 (by decide) rfl ?_
    refine J_iload_n dX10_begin_97 rfl ?_
    refine J_iconstN (n := 4) dX10_begin_98 ?_
    refine J_icmp_geN dX10_begin_99 (by decide) (by decide) (fun c0 => absurd c0 (by decide)) (fun c0 => ?_)
    refine J_aload_n dX10_begin_102 rfl ?_
    refine J_getR (r := some 168) dX10_begin_103 fX10_44 s158 (fun _ => rfl) (g158_20 hG) ?_
    refine J_iconstN (n := 4) dX10_begin_106 ?_
    refine J_iload_n dX10_begin_107 rfl ?_
    refine J_iaddN dX10_begin_108 ?_
    refine J_iconst (x := -1) dX10_begin_109 (by decide) ?_
    refine J_iastN dX10_begin_110 s168 (by decide) (by omega) ?_
    refine J_iinc (y := nI 1) (L' := [some (pR (some 158)), some (pI (nI 1)), none]) dX10_begin_111 rfl (by decide) (by decide) rfl ?_
    refine J_goto dX10_begin_114 ?_
    refine J_iload_n dX10_begin_97 rfl ?_
    refine J_iconstN (n := 4) dX10_begin_98 ?_
    refine J_icmp_geN dX10_begin_99 (by decide) (by decide) (fun c0 => absurd c0 (by decide)) (fun c0 => ?_)
    refine J_aload_n dX10_begin_102 rfl ?_
    refine J_getR (r := some 168) dX10_begin_103 fX10_44 s158 (fun _ => rfl) ((xRI).trans (g158_20 hG)) ?_
    refine J_iconstN (n := 4) dX10_begin_106 ?_
    refine J_iload_n dX10_begin_107 rfl ?_
    refine J_iaddN dX10_begin_108 ?_
    refine J_iconst (x := -1) dX10_begin_109 (by decide) ?_
    refine J_iastN dX10_begin_110 s168 (by decide) (by omega) ?_
    refine J_iinc (y := nI 2) (L' := [some (pR (some 158)), some (pI (nI 2)), none]) dX10_begin_111 rfl (by decide) (by decide) rfl ?_
    refine J_goto dX10_begin_114 ?_
    refine J_iload_n dX10_begin_97 rfl ?_
    refine J_iconstN (n := 4) dX10_begin_98 ?_
    refine J_icmp_geN dX10_begin_99 (by decide) (by decide) (fun c0 => absurd c0 (by decide)) (fun c0 => ?_)
    refine J_aload_n dX10_begin_102 rfl ?_
    refine J_getR (r := some 168) dX10_begin_103 fX10_44 s158 (fun _ => rfl) ((xRI).trans ((xRI).trans (g158_20 hG))) ?_
    refine J_iconstN (n := 4) dX10_begin_106 ?_
    refine J_iload_n dX10_begin_107 rfl ?_
    refine J_iaddN dX10_begin_108 ?_
    refine J_iconst (x := -1) dX10_begin_109 (by decide) ?_
    refine J_iastN dX10_begin_110 s168 (by decide) (by omega) ?_
    refine J_iinc (y := nI 3) (L' := [some (pR (some 158)), some (pI (nI 3)), none]) dX10_begin_111 rfl (by decide) (by decide) rfl ?_
    refine J_goto dX10_begin_114 ?_
    refine J_iload_n dX10_begin_97 rfl ?_
    refine J_iconstN (n := 4) dX10_begin_98 ?_
    refine J_icmp_geN dX10_begin_99 (by decide) (by decide) (fun c0 => absurd c0 (by decide)) (fun c0 => ?_)
    refine J_aload_n dX10_begin_102 rfl ?_
    refine J_getR (r := some 168) dX10_begin_103 fX10_44 s158 (fun _ => rfl) ((xRI).trans ((xRI).trans ((xRI).trans (g158_20 hG)))) ?_
    refine J_iconstN (n := 4) dX10_begin_106 ?_
    refine J_iload_n dX10_begin_107 rfl ?_
    refine J_iaddN dX10_begin_108 ?_
    refine J_iconst (x := -1) dX10_begin_109 (by decide) ?_
    refine J_iastN dX10_begin_110 s168 (by decide) (by omega) ?_
    refine J_iinc (y := nI 4) (L' := [some (pR (some 158)), some (pI (nI 4)), none]) dX10_begin_111 rfl (by decide) (by decide) rfl ?_
    refine J_goto dX10_begin_114 ?_
    refine J_iload_n dX10_begin_97 rfl ?_
    refine J_iconstN (n := 4) dX10_begin_98 ?_
    refine J_icmp_geN dX10_begin_99 (by decide) (by decide) (fun c0 => ?_) (fun c0 => absurd c0 (by decide))
    refine J_aload_n dX10_begin_117 rfl ?_
    refine J_iconstN (n := 0) dX10_begin_118 ?_
    refine J_putI dX10_begin_119 fX10_182 s158 rfl (vp_nar_int _) rfl (fun _ _ => rfl) ?_
    exact J_retV dX10_begin_122 rfl ⟨h1, hI1, rfl⟩
  · show J _ _ _ _ _ [some (pR (some 158)), some (pI (nI i1)), none] _ _ h1
    have hG := hI1.g hG0
    refine J_iload_n dX10_begin_40 rfl ?_
    refine J_bipush (x := nI 16) dX10_begin_41 (by decide) ?_
    refine J_icmp_geN dX10_begin_43 (by omega) (by omega) (fun c1 => ?_) (fun c1 => ?_)
    · exact (show False by omega).elim
    · refine J_aload_n dX10_begin_46 rfl ?_
      refine J_getR (r := some 167) dX10_begin_47 fX10_40 s158 (fun _ => rfl) (g158_19 hG) ?_
      refine J_iload_n dX10_begin_50 rfl ?_
      refine J_iconstN (n := 0) dX10_begin_51 ?_
      refine J_zastN dX10_begin_52 s167 (by decide) (by omega) ?_
      refine J_iconstN (n := 0) dX10_begin_53 ?_
      refine J_istore_n (L' := [some (pR (some 158)), some (pI (nI i1)), some (pI (nI 0))]) dX10_begin_54 (by decide) rfl ?_
      refine J_iload_n dX10_begin_55 rfl ?_
      refine J_iconstN (n := 5) dX10_begin_56 ?_
      refine J_icmp_geN dX10_begin_57 (by decide) (by decide) (fun c0 => absurd c0 (by decide)) (fun c0 => ?_)
      refine J_aload_n dX10_begin_60 rfl ?_
      refine J_getR (r := some 166) dX10_begin_61 fX10_37 s158 (fun _ => rfl) ((xRI).trans (g158_18 hG)) ?_
      refine J_bipush (x := nI 80) dX10_begin_64 (by decide) ?_
      refine J_iconstN (n := 5) dX10_begin_66 ?_
      refine J_iload_n dX10_begin_67 rfl ?_
      refine J_imulN dX10_begin_68 ?_
      refine J_iaddN dX10_begin_69 ?_
      refine J_iload_n dX10_begin_70 rfl ?_
      refine J_iaddN dX10_begin_71 ?_
      refine J_iload_n dX10_begin_72 rfl ?_
      refine J_if_ne dX10_begin_73 (fun c0 => absurd c0 (by decide)) (fun c0 => ?_)
      refine J_bipush (x := nI 10) dX10_begin_76 (by decide) ?_
      refine J_goto dX10_begin_78 ?_
      refine J_iastN dX10_begin_82 s166 (by decide) (by omega) ?_
      refine J_iinc (y := nI 1) (L' := [some (pR (some 158)), some (pI (nI i1)), some (pI (nI 1))]) dX10_begin_83 rfl (by decide) (by decide) rfl ?_
      refine J_goto dX10_begin_86 ?_
      refine J_iload_n dX10_begin_55 rfl ?_
      refine J_iconstN (n := 5) dX10_begin_56 ?_
      refine J_icmp_geN dX10_begin_57 (by decide) (by decide) (fun c0 => absurd c0 (by decide)) (fun c0 => ?_)
      refine J_aload_n dX10_begin_60 rfl ?_
      refine J_getR (r := some 166) dX10_begin_61 fX10_37 s158 (fun _ => rfl) ((xRI).trans ((xRI).trans (g158_18 hG))) ?_
      refine J_bipush (x := nI 80) dX10_begin_64 (by decide) ?_
      refine J_iconstN (n := 5) dX10_begin_66 ?_
      refine J_iload_n dX10_begin_67 rfl ?_
      refine J_imulN dX10_begin_68 ?_
      refine J_iaddN dX10_begin_69 ?_
      refine J_iload_n dX10_begin_70 rfl ?_
      refine J_iaddN dX10_begin_71 ?_
      refine J_iload_n dX10_begin_72 rfl ?_
      refine J_if_ne dX10_begin_73 (fun c0 => ?_) (fun c0 => absurd c0 (by decide))
      refine J_iconstN (n := 0) dX10_begin_81 ?_
      refine J_iastN dX10_begin_82 s166 (by decide) (by omega) ?_
      refine J_iinc (y := nI 2) (L' := [some (pR (some 158)), some (pI (nI i1)), some (pI (nI 2))]) dX10_begin_83 rfl (by decide) (by decide) rfl ?_
      refine J_goto dX10_begin_86 ?_
      refine J_iload_n dX10_begin_55 rfl ?_
      refine J_iconstN (n := 5) dX10_begin_56 ?_
      refine J_icmp_geN dX10_begin_57 (by decide) (by decide) (fun c0 => absurd c0 (by decide)) (fun c0 => ?_)
      refine J_aload_n dX10_begin_60 rfl ?_
      refine J_getR (r := some 166) dX10_begin_61 fX10_37 s158 (fun _ => rfl) ((xRI).trans ((xRI).trans ((xRI).trans (g158_18 hG)))) ?_
      refine J_bipush (x := nI 80) dX10_begin_64 (by decide) ?_
      refine J_iconstN (n := 5) dX10_begin_66 ?_
      refine J_iload_n dX10_begin_67 rfl ?_
      refine J_imulN dX10_begin_68 ?_
      refine J_iaddN dX10_begin_69 ?_
      refine J_iload_n dX10_begin_70 rfl ?_
      refine J_iaddN dX10_begin_71 ?_
      refine J_iload_n dX10_begin_72 rfl ?_
      refine J_if_ne dX10_begin_73 (fun c0 => ?_) (fun c0 => absurd c0 (by decide))
      refine J_iconstN (n := 0) dX10_begin_81 ?_
      refine J_iastN dX10_begin_82 s166 (by decide) (by omega) ?_
      refine J_iinc (y := nI 3) (L' := [some (pR (some 158)), some (pI (nI i1)), some (pI (nI 3))]) dX10_begin_83 rfl (by decide) (by decide) rfl ?_
      refine J_goto dX10_begin_86 ?_
      refine J_iload_n dX10_begin_55 rfl ?_
      refine J_iconstN (n := 5) dX10_begin_56 ?_
      refine J_icmp_geN dX10_begin_57 (by decide) (by decide) (fun c0 => absurd c0 (by decide)) (fun c0 => ?_)
      refine J_aload_n dX10_begin_60 rfl ?_
      refine J_getR (r := some 166) dX10_begin_61 fX10_37 s158 (fun _ => rfl) ((xRI).trans ((xRI).trans ((xRI).trans ((xRI).trans (g158_18 hG))))) ?_
      refine J_bipush (x := nI 80) dX10_begin_64 (by decide) ?_
      refine J_iconstN (n := 5) dX10_begin_66 ?_
      refine J_iload_n dX10_begin_67 rfl ?_
      refine J_imulN dX10_begin_68 ?_
      refine J_iaddN dX10_begin_69 ?_
      refine J_iload_n dX10_begin_70 rfl ?_
      refine J_iaddN dX10_begin_71 ?_
      refine J_iload_n dX10_begin_72 rfl ?_
      refine J_if_ne dX10_begin_73 (fun c0 => ?_) (fun c0 => absurd c0 (by decide))
      refine J_iconstN (n := 0) dX10_begin_81 ?_
      refine J_iastN dX10_begin_82 s166 (by decide) (by omega) ?_
      refine J_iinc (y := nI 4) (L' := [some (pR (some 158)), some (pI (nI i1)), some (pI (nI 4))]) dX10_begin_83 rfl (by decide) (by decide) rfl ?_
      refine J_goto dX10_begin_86 ?_
      refine J_iload_n dX10_begin_55 rfl ?_
      refine J_iconstN (n := 5) dX10_begin_56 ?_
      refine J_icmp_geN dX10_begin_57 (by decide) (by decide) (fun c0 => absurd c0 (by decide)) (fun c0 => ?_)
      refine J_aload_n dX10_begin_60 rfl ?_
      refine J_getR (r := some 166) dX10_begin_61 fX10_37 s158 (fun _ => rfl) ((xRI).trans ((xRI).trans ((xRI).trans ((xRI).trans ((xRI).trans (g158_18 hG)))))) ?_
      refine J_bipush (x := nI 80) dX10_begin_64 (by decide) ?_
      refine J_iconstN (n := 5) dX10_begin_66 ?_
      refine J_iload_n dX10_begin_67 rfl ?_
      refine J_imulN dX10_begin_68 ?_
      refine J_iaddN dX10_begin_69 ?_
      refine J_iload_n dX10_begin_70 rfl ?_
      refine J_iaddN dX10_begin_71 ?_
      refine J_iload_n dX10_begin_72 rfl ?_
      refine J_if_ne dX10_begin_73 (fun c0 => ?_) (fun c0 => absurd c0 (by decide))
      refine J_iconstN (n := 0) dX10_begin_81 ?_
      refine J_iastN dX10_begin_82 s166 (by decide) (by omega) ?_
      refine J_iinc (y := nI 5) (L' := [some (pR (some 158)), some (pI (nI i1)), some (pI (nI 5))]) dX10_begin_83 rfl (by decide) (by decide) rfl ?_
      refine J_goto dX10_begin_86 ?_
      refine J_iload_n dX10_begin_55 rfl ?_
      refine J_iconstN (n := 5) dX10_begin_56 ?_
      refine J_icmp_geN dX10_begin_57 (by decide) (by decide) (fun c0 => ?_) (fun c0 => absurd c0 (by decide))
      refine J_iincN (n := 1) (L' := [some (pR (some 158)), some (pI (nI (i1 + 1))), some (pI (nI 5))]) dX10_begin_89 rfl (by decide) rfl ?_
      refine J_goto dX10_begin_92 ?_
      refine J_drop (L' := [some (pR (some 158)), some (pI (nI (i1 + 1))), none]) 2 rfl ?_
      exact ih1 () _ (hI1.n (by decide))
