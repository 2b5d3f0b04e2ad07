/-! ===== the model's constructor, the start of both ===== -/
def hpB : PH := zc hp79 158
def hp80 : PH := (sR (zc (sR (zc (sR (zc (sR (zc (sR (zc (sR (zc (sR (zc (sR (zc (sR (zc (sR (zc (sR (zc (sI (sR (zc (sR (zc (sR (zc (sR (zc (sR (zc (sR (zc (sR (zc (sR (zc (sR (zc (sR (zc (sR (zc (sR (zc (sR (zc (sR (zc (sR (zc (sR (zc (sI (sR (zc hpB 159) 158 0 (some 159)) 158 9 (-1)) 160) 158 12 (some 160)) 161) 158 13 (some 161)) 162) 158 14 (some 162)) 163) 158 15 (some 163)) 164) 158 16 (some 164)) 165) 158 17 (some 165)) 166) 158 18 (some 166)) 167) 158 19 (some 167)) 168) 158 20 (some 168)) 169) 158 21 (some 169)) 170) 158 22 (some 170)) 171) 158 25 (some 171)) 172) 158 26 (some 172)) 173) 158 32 (some 173)) 174) 158 33 (some 174)) 175) 158 34 (some 175)) 158 35 (-1)) 176) 158 39 (some 176)) 177) 158 40 (some 177)) 178) 158 41 (some 178)) 179) 158 43 (some 179)) 180) 158 44 (some 180)) 181) 158 45 (some 181)) 182) 158 46 (some 182)) 183) 158 47 (some 183)) 184) 158 48 (some 184)) 185) 158 49 (some 185)) 186) 158 50 (some 186))
theorem sI_same {h : PH} {c k : Nat} {x : Int32} (e : h.1 c k = x) : sI h c k x = h := by
  have e1 : upd (h.1 c) k x = h.1 c := by
    funext j
    unfold upd
    by_cases q : j = k
    · rw [if_pos q, q, e]
    · rw [if_neg q]
  have e2 : up2 h.1 c (upd (h.1 c) k x) = h.1 := by
    funext a
    by_cases q : a = c
    · subst q
      rw [up2_self, e1]
    · rw [up2_ne _ _ q]
  show (up2 h.1 c (upd (h.1 c) k x), h.2.1, h.2.2) = h
  rw [e2]
def Az : AS := (fun _ => 0, 0, fun _ _ _ => 0, fun _ _ => 0, (nI 0, -1), (0, fun _ => 0), fun _ _ => 0, fun _ _ _ => 0, fun _ => 0)
/-- the state that both start with -/
def A00 : AS := wP Az P00
theorem WF_00 : WF A00 := ⟨by decide, fun _ => rfl, OkG_0.1.ok (Or.inl rfl), fun t ht => absurd ht (Nat.not_lt_zero t), ⟨by decide, fun _ => Nat.zero_le _⟩, fun r _ => ⟨by show (0 : Nat) < 2; decide, fun y => absurd (show (0 : Nat) = 1 from y) (by decide)⟩⟩
theorem hp_G : GR hp80.2.2 := by
  unfold GR
  decide +kernel
set_option maxRecDepth 100000 in
theorem hp_X : XI hp80 2 A00 := by
  refine ⟨⟨Or.inl rfl, by decide +kernel, by decide +kernel⟩, ⟨fun i _ => rfl, by decide +kernel⟩, ⟨⟨by decide +kernel, by decide +kernel, by decide +kernel, by decide +kernel, by decide +kernel, by decide +kernel⟩, fun w hw => absurd hw (Nat.not_lt_zero w), fun w hw => absurd hw (Nat.not_lt_zero w), fun w hw => absurd hw (Nat.not_lt_zero w), fun w hw => absurd hw (Nat.not_lt_zero w), fun w hw => absurd hw (Nat.not_lt_zero w), fun w hw => absurd hw (Nat.not_lt_zero w)⟩, fun w hw => absurd hw (Nat.not_lt_zero w), ⟨by decide +kernel, by decide +kernel⟩, ⟨by decide +kernel, fun y => absurd (show (0 : Nat) = 1 from y) (by decide)⟩, fun r hr => ⟨?_, fun y => absurd (show (0 : Nat) = 1 from y) (by decide)⟩⟩
  show hp80.1 (rcX r) 0 = nI 0
  rcases (show r = 0 ∨ r = 1 ∨ r = 2 ∨ r = 3 by omega) with rfl | rfl | rfl | rfl <;> decide +kernel
theorem hp_M {g : PH} (f : Mf hp80 g) : MI g Az := by
  refine ⟨⟨fun i _ => (f.1 _ _ (nD (by omega))).trans rfl, (f.1 _ _ (nD8 (by omega))).trans (by decide +kernel)⟩, ⟨fun k hk => (f.1 _ _ (by unfold inD; omega)).trans rfl, (f.1 _ _ (nD8 (by omega))).trans (by decide +kernel), fun w hw => absurd hw (Nat.not_lt_zero w), fun w hw => absurd hw (Nat.not_lt_zero w), fun w hw => absurd hw (Nat.not_lt_zero w), fun w hw => absurd hw (Nat.not_lt_zero w), fun w hw => absurd hw (Nat.not_lt_zero w)⟩, fun w hw => absurd hw (Nat.not_lt_zero w), ⟨(f.1 _ _ (nD8 (by omega))).trans (by decide +kernel), (f.1 _ _ (nD8 (by omega))).trans (by decide +kernel)⟩, ⟨(f.1 _ _ (nD8 (by omega))).trans (by decide +kernel), fun y => absurd (show (0 : Nat) = 1 from y) (by decide)⟩, ⟨(f.1 _ _ (nD (by omega))).trans (by decide +kernel), fun r hr => (f.1 _ _ (nD (by omega))).trans rfl, fun r hr y => absurd (show (0 : Nat) = 1 from y) (by decide)⟩, (f.1 _ _ (nD8 (by omega))).trans (by decide +kernel)⟩
/-- the class's cells are below -/
theorem XI.far {h h' : PH} {p : Nat} {A : AS} (a : XI h p A) (hW : WF A) (f : Fr 158 186 h h') : XI h' p A := by
  obtain ⟨⟨-, -, w4, t4, f6, -⟩, -⟩ := hW.2.2.1
  obtain ⟨⟨a1, a2, a3⟩, ⟨a4, a5⟩, a6, a7, ⟨a8, a9⟩, ⟨a10, a11⟩, a12⟩ := a
  have hb := a1.b
  have ff : ∀ c, p ≤ c → c ≤ p + 42 → h'.1 c = h.1 c ∧ h'.2.1 c = h.2.1 c := fun c _ z2 => f.1 c (by omega)
  exact ⟨⟨a1, f.r.trans a2, f.r.trans a3⟩, ⟨fun i hi => (f.i (by omega)).trans (a4 i hi), (f.i (by omega)).trans a5⟩, a6.f2 hW.2.2.1 ff, a7.f2 hW.2.2.1 ff, ⟨(f.i (by omega)).trans a8, (f.i (by omega)).trans a9⟩, ⟨(f.i (by omega)).trans a10, fun z t ht => (f.i (by omega)).trans (a11 z t ht)⟩, fun r hr => by
    have := rcX_b hr
    exact (a12 r hr).f2 (fun e z1 z2 => f.1 e (by omega))⟩
/-- the model's cells are above -/
theorem MI.far {h h' : PH} {A : AS} (a : MI h A) (f : ∀ c, 157 < c → h'.1 c = h.1 c ∧ h'.2.1 c = h.2.1 c) : MI h' A := by
  have F : ∀ c k, 157 < c → h'.1 c k = h.1 c k := fun c k z => congrFun (f c z).1 k
  obtain ⟨⟨a1, a2⟩, ⟨c0, c1, c2, c3, c4, c5, c6⟩, a4, ⟨a5, a6⟩, ⟨a7, a8⟩, ⟨a9, a10, a11⟩, a12⟩ := a
  exact ⟨⟨fun i hi => (F _ _ (by decide)).trans (a1 i hi), (F _ _ (by decide)).trans a2⟩, ⟨fun k hk => (F _ _ (by decide)).trans (c0 k hk), (F _ _ (by decide)).trans c1, fun w hw k hk => (F _ _ (by decide)).trans (c2 w hw k hk), fun w hw k hk => (F _ _ (by decide)).trans (c3 w hw k hk), fun t ht w hw k hk => (F _ _ (by decide)).trans (c4 t ht w hw k hk), fun t ht => ⟨(F _ _ (by decide)).trans (c5 t ht).1, fun z => (F _ _ (by decide)).trans ((c5 t ht).2 z)⟩, fun w hw k hk => (F _ _ (by decide)).trans (c6 w hw k hk)⟩, fun t ht => ⟨(F _ _ (by decide)).trans (a4 t ht).1, (F _ _ (by decide)).trans (a4 t ht).2⟩, ⟨(F _ _ (by decide)).trans a5, (F _ _ (by decide)).trans a6⟩, ⟨(F _ _ (by decide)).trans a7, fun z t ht => (F _ _ (by decide)).trans (a8 z t ht)⟩, ⟨(F _ _ (by decide)).trans a9, fun r hr => (F _ _ (by decide)).trans (a10 r hr), fun r hr z => ⟨⟨(F _ _ (by decide)).trans (a11 r hr z).1.1, (F _ _ (by decide)).trans (a11 r hr z).1.2.1, (F _ _ (by decide)).trans (a11 r hr z).1.2.2.1, fun t ht => ⟨fun i hi => (F _ _ (by decide)).trans (((a11 r hr z).1.2.2.2 t ht).1 i hi), (F _ _ (by decide)).trans ((a11 r hr z).1.2.2.2 t ht).2⟩⟩, (congrFun (f 185 (by decide)).2 r).trans (a11 r hr z).2.1, (F _ _ (by decide)).trans (a11 r hr z).2.2⟩⟩, (F _ _ (by decide)).trans a12⟩
/-- both stand at the same state -/
def St (h : PH) (A : AS) : Prop := GR h.2.2 ∧ (∃ p, XI h p A) ∧ MI h A ∧ WF A
theorem ci_X10_init : Ct mX10_init (SHF.take 159) SHF hpB [pR (some 158)] (fun r h' => r = none ∧ St h' A00) := by
  refine Ct.of (L := [some (pR (some 158))]) rfl rfl (Nat.le_of_ble_eq_true rfl) rfl ?_
  refine J_aload_n dX10_init_0 rfl ?_
  refine J_obj dX10_init_1 (lw_inG 1202 (by decide +kernel) (by decide +kernel)) (lw_inG 134 (by decide +kernel) (by decide +kernel)) (lw_inG 135 (by decide +kernel) (by decide +kernel)) (Nat.le_of_ble_eq_true rfl) (Nat.le_of_ble_eq_true rfl) ?_
  refine J_aload_n dX10_init_4 rfl ?_
  refine J_sipush (x := nI 900) dX10_init_5 (by decide) ?_
  refine J_newa (kd := 1) (n := 159) (N := 900) dX10_init_8 (by decide) rfl (lw_inG 225 (by decide +kernel) (by decide +kernel)) (by decide) s159 ⟨⟨by decide +kernel, by decide +kernel⟩, by decide +kernel, by decide +kernel⟩ ?_
  refine J_putFR dX10_init_10 fX10_7 (TK_at s158 (by decide)) rfl rfl rfl (Or.inr ⟨_, rfl⟩) ?_
  refine J_aload_n dX10_init_13 rfl ?_
  refine J_iconst (x := -1) dX10_init_14 (by decide) ?_
  refine J_putI dX10_init_15 fX10_13 (TK_at s158 (by decide)) rfl rfl rfl (fun _ _ => rfl) ?_
  refine J_aload_n dX10_init_18 rfl ?_
  refine J_bipush (x := nI 10) dX10_init_19 (by decide) ?_
  refine J_newa (kd := 0) (n := 160) (N := 10) dX10_init_21 (by decide) rfl (lw_inG 227 (by decide +kernel) (by decide +kernel)) (by decide) s160 ⟨⟨by decide +kernel, by decide +kernel⟩, by decide +kernel, by decide +kernel⟩ ?_
  refine J_putFR dX10_init_23 fX10_17 (TK_at s158 (by decide)) rfl rfl rfl (Or.inr ⟨_, rfl⟩) ?_
  refine J_aload_n dX10_init_26 rfl ?_
  refine J_iconstN (n := 4) dX10_init_27 ?_
  refine J_newa (kd := 3) (n := 161) (N := 4) dX10_init_28 (by decide) rfl (lw_inG 226 (by decide +kernel) (by decide +kernel)) (by decide) s161 ⟨⟨by decide +kernel, by decide +kernel⟩, by decide +kernel, by decide +kernel⟩ ?_
  refine J_putFR dX10_init_30 fX10_21 (TK_at s158 (by decide)) rfl rfl rfl (Or.inr ⟨_, rfl⟩) ?_
  refine J_aload_n dX10_init_33 rfl ?_
  refine J_iconstN (n := 4) dX10_init_34 ?_
  refine J_newa (kd := 3) (n := 162) (N := 4) dX10_init_35 (by decide) rfl (lw_inG 226 (by decide +kernel) (by decide +kernel)) (by decide) s162 ⟨⟨by decide +kernel, by decide +kernel⟩, by decide +kernel, by decide +kernel⟩ ?_
  refine J_putFR dX10_init_37 fX10_25 (TK_at s158 (by decide)) rfl rfl rfl (Or.inr ⟨_, rfl⟩) ?_
  refine J_aload_n dX10_init_40 rfl ?_
  refine J_bipush (x := nI 6) dX10_init_41 (by decide) ?_
  refine J_newa (kd := 3) (n := 163) (N := 6) dX10_init_43 (by decide) rfl (lw_inG 226 (by decide +kernel) (by decide +kernel)) (by decide) s163 ⟨⟨by decide +kernel, by decide +kernel⟩, by decide +kernel, by decide +kernel⟩ ?_
  refine J_putFR dX10_init_45 fX10_28 (TK_at s158 (by decide)) rfl rfl rfl (Or.inr ⟨_, rfl⟩) ?_
  refine J_aload_n dX10_init_48 rfl ?_
  refine J_bipush (x := nI 32) dX10_init_49 (by decide) ?_
  refine J_newa (kd := 0) (n := 164) (N := 32) dX10_init_51 (by decide) rfl (lw_inG 227 (by decide +kernel) (by decide +kernel)) (by decide) s164 ⟨⟨by decide +kernel, by decide +kernel⟩, by decide +kernel, by decide +kernel⟩ ?_
  refine J_putFR dX10_init_53 fX10_31 (TK_at s158 (by decide)) rfl rfl rfl (Or.inr ⟨_, rfl⟩) ?_
  refine J_aload_n dX10_init_56 rfl ?_
  refine J_bipush (x := nI 48) dX10_init_57 (by decide) ?_
  refine J_newa (kd := 0) (n := 165) (N := 48) dX10_init_59 (by decide) rfl (lw_inG 227 (by decide +kernel) (by decide +kernel)) (by decide) s165 ⟨⟨by decide +kernel, by decide +kernel⟩, by decide +kernel, by decide +kernel⟩ ?_
  refine J_putFR dX10_init_61 fX10_34 (TK_at s158 (by decide)) rfl rfl rfl (Or.inr ⟨_, rfl⟩) ?_
  refine J_aload_n dX10_init_64 rfl ?_
  refine J_sipush (x := nI 160) dX10_init_65 (by decide) ?_
  refine J_newa (kd := 0) (n := 166) (N := 160) dX10_init_68 (by decide) rfl (lw_inG 227 (by decide +kernel) (by decide +kernel)) (by decide) s166 ⟨⟨by decide +kernel, by decide +kernel⟩, by decide +kernel, by decide +kernel⟩ ?_
  refine J_putFR dX10_init_70 fX10_37 (TK_at s158 (by decide)) rfl rfl rfl (Or.inr ⟨_, rfl⟩) ?_
  refine J_aload_n dX10_init_73 rfl ?_
  refine J_bipush (x := nI 16) dX10_init_74 (by decide) ?_
  refine J_newa (kd := 2) (n := 167) (N := 16) dX10_init_76 (by decide) rfl (lw_inG 228 (by decide +kernel) (by decide +kernel)) (by decide) s167 ⟨⟨by decide +kernel, by decide +kernel⟩, by decide +kernel, by decide +kernel⟩ ?_
  refine J_putFR dX10_init_78 fX10_40 (TK_at s158 (by decide)) rfl rfl rfl (Or.inr ⟨_, rfl⟩) ?_
  refine J_aload_n dX10_init_81 rfl ?_
  refine J_bipush (x := nI 8) dX10_init_82 (by decide) ?_
  refine J_newa (kd := 0) (n := 168) (N := 8) dX10_init_84 (by decide) rfl (lw_inG 227 (by decide +kernel) (by decide +kernel)) (by decide) s168 ⟨⟨by decide +kernel, by decide +kernel⟩, by decide +kernel, by decide +kernel⟩ ?_
  refine J_putFR dX10_init_86 fX10_44 (TK_at s158 (by decide)) rfl rfl rfl (Or.inr ⟨_, rfl⟩) ?_
  refine J_aload_n dX10_init_89 rfl ?_
  refine J_bipush (x := nI 8) dX10_init_90 (by decide) ?_
  refine J_newa (kd := 0) (n := 169) (N := 8) dX10_init_92 (by decide) rfl (lw_inG 227 (by decide +kernel) (by decide +kernel)) (by decide) s169 ⟨⟨by decide +kernel, by decide +kernel⟩, by decide +kernel, by decide +kernel⟩ ?_
  refine J_putFR dX10_init_94 fX10_47 (TK_at s158 (by decide)) rfl rfl rfl (Or.inr ⟨_, rfl⟩) ?_
  refine J_aload_n dX10_init_97 rfl ?_
  refine J_bipush (x := nI 36) dX10_init_98 (by decide) ?_
  refine J_newa (kd := 0) (n := 170) (N := 36) dX10_init_100 (by decide) rfl (lw_inG 227 (by decide +kernel) (by decide +kernel)) (by decide) s170 ⟨⟨by decide +kernel, by decide +kernel⟩, by decide +kernel, by decide +kernel⟩ ?_
  refine J_putFR dX10_init_102 fX10_50 (TK_at s158 (by decide)) rfl rfl rfl (Or.inr ⟨_, rfl⟩) ?_
  refine J_aload_n dX10_init_105 rfl ?_
  refine J_iconstN (n := 4) dX10_init_106 ?_
  refine J_newa (kd := 0) (n := 171) (N := 4) dX10_init_107 (by decide) rfl (lw_inG 227 (by decide +kernel) (by decide +kernel)) (by decide) s171 ⟨⟨by decide +kernel, by decide +kernel⟩, by decide +kernel, by decide +kernel⟩ ?_
  refine J_putFR dX10_init_109 fX10_53 (TK_at s158 (by decide)) rfl rfl rfl (Or.inr ⟨_, rfl⟩) ?_
  refine J_aload_n dX10_init_112 rfl ?_
  refine J_iconstN (n := 4) dX10_init_113 ?_
  refine J_newa (kd := 0) (n := 172) (N := 4) dX10_init_114 (by decide) rfl (lw_inG 227 (by decide +kernel) (by decide +kernel)) (by decide) s172 ⟨⟨by decide +kernel, by decide +kernel⟩, by decide +kernel, by decide +kernel⟩ ?_
  refine J_putFR dX10_init_116 fX10_56 (TK_at s158 (by decide)) rfl rfl rfl (Or.inr ⟨_, rfl⟩) ?_
  refine J_aload_n dX10_init_119 rfl ?_
  refine J_bipush (x := nI 64) dX10_init_120 (by decide) ?_
  refine J_newa (kd := 3) (n := 173) (N := 64) dX10_init_122 (by decide) rfl (lw_inG 226 (by decide +kernel) (by decide +kernel)) (by decide) s173 ⟨⟨by decide +kernel, by decide +kernel⟩, by decide +kernel, by decide +kernel⟩ ?_
  refine J_putFR dX10_init_124 fX10_59 (TK_at s158 (by decide)) rfl rfl rfl (Or.inr ⟨_, rfl⟩) ?_
  refine J_aload_n dX10_init_127 rfl ?_
  refine J_bipush (x := nI 64) dX10_init_128 (by decide) ?_
  refine J_newa (kd := 3) (n := 174) (N := 64) dX10_init_130 (by decide) rfl (lw_inG 226 (by decide +kernel) (by decide +kernel)) (by decide) s174 ⟨⟨by decide +kernel, by decide +kernel⟩, by decide +kernel, by decide +kernel⟩ ?_
  refine J_putFR dX10_init_132 fX10_62 (TK_at s158 (by decide)) rfl rfl rfl (Or.inr ⟨_, rfl⟩) ?_
  refine J_aload_n dX10_init_135 rfl ?_
  refine J_iconstN (n := 5) dX10_init_136 ?_
  refine J_newa (kd := 3) (n := 175) (N := 5) dX10_init_137 (by decide) rfl (lw_inG 226 (by decide +kernel) (by decide +kernel)) (by decide) s175 ⟨⟨by decide +kernel, by decide +kernel⟩, by decide +kernel, by decide +kernel⟩ ?_
  refine J_putFR dX10_init_139 fX10_65 (TK_at s158 (by decide)) rfl rfl rfl (Or.inr ⟨_, rfl⟩) ?_
  refine J_aload_n dX10_init_142 rfl ?_
  refine J_iconst (x := -1) dX10_init_143 (by decide) ?_
  refine J_putI dX10_init_144 fX10_68 (TK_at s158 (by decide)) rfl rfl rfl (fun _ _ => rfl) ?_
  refine J_aload_n dX10_init_147 rfl ?_
  refine J_sipush (x := nI 164) dX10_init_148 (by decide) ?_
  refine J_newa (kd := 3) (n := 176) (N := 164) dX10_init_151 (by decide) rfl (lw_inG 226 (by decide +kernel) (by decide +kernel)) (by decide) s176 ⟨⟨by decide +kernel, by decide +kernel⟩, by decide +kernel, by decide +kernel⟩ ?_
  refine J_putFR dX10_init_153 fX10_71 (TK_at s158 (by decide)) rfl rfl rfl (Or.inr ⟨_, rfl⟩) ?_
  refine J_aload_n dX10_init_156 rfl ?_
  refine J_sipush (x := nI 500) dX10_init_157 (by decide) ?_
  refine J_newa (kd := 3) (n := 177) (N := 500) dX10_init_160 (by decide) rfl (lw_inG 226 (by decide +kernel) (by decide +kernel)) (by decide) s177 ⟨⟨by decide +kernel, by decide +kernel⟩, by decide +kernel, by decide +kernel⟩ ?_
  refine J_putFR dX10_init_162 fX10_74 (TK_at s158 (by decide)) rfl rfl rfl (Or.inr ⟨_, rfl⟩) ?_
  refine J_aload_n dX10_init_165 rfl ?_
  refine J_iconstN (n := 4) dX10_init_166 ?_
  refine J_newa (kd := 0) (n := 178) (N := 4) dX10_init_167 (by decide) rfl (lw_inG 227 (by decide +kernel) (by decide +kernel)) (by decide) s178 ⟨⟨by decide +kernel, by decide +kernel⟩, by decide +kernel, by decide +kernel⟩ ?_
  refine J_putFR dX10_init_169 fX10_77 (TK_at s158 (by decide)) rfl rfl rfl (Or.inr ⟨_, rfl⟩) ?_
  refine J_aload_n dX10_init_172 rfl ?_
  refine J_iconstN (n := 4) dX10_init_173 ?_
  refine J_newa (kd := 0) (n := 179) (N := 4) dX10_init_174 (by decide) rfl (lw_inG 227 (by decide +kernel) (by decide +kernel)) (by decide) s179 ⟨⟨by decide +kernel, by decide +kernel⟩, by decide +kernel, by decide +kernel⟩ ?_
  refine J_putFR dX10_init_176 fX10_80 (TK_at s158 (by decide)) rfl rfl rfl (Or.inr ⟨_, rfl⟩) ?_
  refine J_aload_n dX10_init_179 rfl ?_
  refine J_sipush (x := nI 441) dX10_init_180 (by decide) ?_
  refine J_newa (kd := 3) (n := 180) (N := 441) dX10_init_183 (by decide) rfl (lw_inG 226 (by decide +kernel) (by decide +kernel)) (by decide) s180 ⟨⟨by decide +kernel, by decide +kernel⟩, by decide +kernel, by decide +kernel⟩ ?_
  refine J_putFR dX10_init_185 fX10_83 (TK_at s158 (by decide)) rfl rfl rfl (Or.inr ⟨_, rfl⟩) ?_
  refine J_aload_n dX10_init_188 rfl ?_
  refine J_sipush (x := nI 441) dX10_init_189 (by decide) ?_
  refine J_newa (kd := 3) (n := 181) (N := 441) dX10_init_192 (by decide) rfl (lw_inG 226 (by decide +kernel) (by decide +kernel)) (by decide) s181 ⟨⟨by decide +kernel, by decide +kernel⟩, by decide +kernel, by decide +kernel⟩ ?_
  refine J_putFR dX10_init_194 fX10_86 (TK_at s158 (by decide)) rfl rfl rfl (Or.inr ⟨_, rfl⟩) ?_
  refine J_aload_n dX10_init_197 rfl ?_
  refine J_iconstN (n := 4) dX10_init_198 ?_
  refine J_newa (kd := 3) (n := 182) (N := 4) dX10_init_199 (by decide) rfl (lw_inG 226 (by decide +kernel) (by decide +kernel)) (by decide) s182 ⟨⟨by decide +kernel, by decide +kernel⟩, by decide +kernel, by decide +kernel⟩ ?_
  refine J_putFR dX10_init_201 fX10_89 (TK_at s158 (by decide)) rfl rfl rfl (Or.inr ⟨_, rfl⟩) ?_
  refine J_aload_n dX10_init_204 rfl ?_
  refine J_bipush (x := nI 41) dX10_init_205 (by decide) ?_
  refine J_newa (kd := 3) (n := 183) (N := 41) dX10_init_207 (by decide) rfl (lw_inG 226 (by decide +kernel) (by decide +kernel)) (by decide) s183 ⟨⟨by decide +kernel, by decide +kernel⟩, by decide +kernel, by decide +kernel⟩ ?_
  refine J_putFR dX10_init_209 fX10_92 (TK_at s158 (by decide)) rfl rfl rfl (Or.inr ⟨_, rfl⟩) ?_
  refine J_aload_n dX10_init_212 rfl ?_
  refine J_sipush (x := nI 128) dX10_init_213 (by decide) ?_
  refine J_newa (kd := 0) (n := 184) (N := 128) dX10_init_216 (by decide) rfl (lw_inG 227 (by decide +kernel) (by decide +kernel)) (by decide) s184 ⟨⟨by decide +kernel, by decide +kernel⟩, by decide +kernel, by decide +kernel⟩ ?_
  refine J_putFR dX10_init_218 fX10_95 (TK_at s158 (by decide)) rfl rfl rfl (Or.inr ⟨_, rfl⟩) ?_
  refine J_aload_n dX10_init_221 rfl ?_
  refine J_iconstN (n := 4) dX10_init_222 ?_
  refine J_newa (kd := 3) (n := 185) (N := 4) dX10_init_223 (by decide) rfl (lw_inG 226 (by decide +kernel) (by decide +kernel)) (by decide) s185 ⟨⟨by decide +kernel, by decide +kernel⟩, by decide +kernel, by decide +kernel⟩ ?_
  refine J_putFR dX10_init_225 fX10_98 (TK_at s158 (by decide)) rfl rfl rfl (Or.inr ⟨_, rfl⟩) ?_
  refine J_aload_n dX10_init_228 rfl ?_
  refine J_iconstN (n := 3) dX10_init_229 ?_
  refine J_newa (kd := 2) (n := 186) (N := 3) dX10_init_230 (by decide) rfl (lw_inG 228 (by decide +kernel) (by decide +kernel)) (by decide) s186 ⟨⟨by decide +kernel, by decide +kernel⟩, by decide +kernel, by decide +kernel⟩ ?_
  refine J_putFR dX10_init_232 fX10_101 (TK_at s158 (by decide)) rfl rfl rfl (Or.inr ⟨_, rfl⟩) ?_
  refine J_aload_n dX10_init_235 rfl ?_
  show J _ _ _ _ _ _ _ _ hp80
  show J _ _ _ _ _ _ [pR (some 158)] SHF hp80
  refine J_callV (ci := 10) (c := 158) (as := []) (st := []) dX10_init_236 lX10_104 okX10_begin vX10_begin s158 (by decide) rfl rfl rfl (Nat.le_of_ble_eq_true rfl) ⟨Nat.le_of_ble_eq_true rfl, Nat.le_of_ble_eq_true rfl⟩ ⟨⟨by decide +kernel, by decide +kernel⟩, ⟨by decide +kernel, by decide +kernel⟩, by decide +kernel, by decide +kernel⟩ (c_X10_begin hp_G) (fun r h' q => ?_)
  obtain ⟨rfl, g, hb, rfl⟩ := q
  show J _ _ _ _ _ _ [] _ _
  have fb := Mf_b hb
  have hG2 := fb.g hp_G
  have hM2 := hp_M fb
  have hD2 := Md_0 hb
  have hX2 := hp_X.far WF_00 fb.fr
  have h23 : (sI (sI (sI (sI (sI g 168 (4 + 0) (-1)) 168 (4 + 1) (-1)) 168 (4 + 2) (-1)) 168 (4 + 3) (-1)) 158 24 (nI 0)).1 158 23 = nI 0 := (fb.1 158 23 (nD8 (by omega))).trans (by decide +kernel)
  generalize (sI (sI (sI (sI (sI g 168 (4 + 0) (-1)) 168 (4 + 1) (-1)) 168 (4 + 2) (-1)) 168 (4 + 3) (-1)) 158 24 (nI 0)) = h2 at *
  refine J_aload_n dX10_init_239 rfl ?_
  refine J_callV (ci := 10) (c := 158) (as := []) (st := []) dX10_init_240 lX10_107 okX10_settle vX10_settle s158 (by decide) rfl rfl rfl (Nat.le_of_ble_eq_true rfl) ⟨Nat.le_of_ble_eq_true rfl, Nat.le_of_ble_eq_true rfl⟩ ⟨⟨by decide +kernel, by decide +kernel⟩, ⟨by decide +kernel, by decide +kernel⟩, by decide +kernel, by decide +kernel⟩ (c_X10_settle hG2) (fun r h' q => ?_)
  obtain ⟨rfl, gg, zz, sg, sz, rfl⟩ := q
  show J _ _ _ _ _ _ [] _ _
  have y := MI.good hM2 hD2 OkG_0.1 sg sz
  have e23 : (sI (sI (sI (sI zz 186 0 (vp_nar .boolean (nI 0))) 186 1 (vp_nar .boolean (nI 0))) 186 2 (vp_nar .boolean (nI 0))) 158 42 (nI 0)).1 158 23 = nI (S00.1 0 5 0) := (rI_k (by decide)).trans ((rI_c (by decide)).trans ((rI_c (by decide)).trans ((rI_c (by decide)).trans ((congrFun (sz.1 158 (by decide)) 23).trans ((rI_c (by decide)).trans ((rI_c (by decide)).trans ((rI_c (by decide)).trans ((rI_c (by decide)).trans ((rI_c (by decide)).trans ((rI_c (by decide)).trans ((rI_c (by decide)).trans ((rI_c (by decide)).trans ((congrFun (sg.1 158 (by decide) (by decide) (by decide) (by decide) (by decide) (by decide) (by decide)) 23).trans (h23))))))))))))))
  rw [sI_same e23] at y
  exact J_vreturn dX10_init_243 rfl ⟨rfl, y.2.g hG2, ⟨2, hX2.far WF_00 y.2⟩, y.1, WF_00⟩
