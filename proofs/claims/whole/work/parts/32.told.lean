theorem c_X9_toldOfThing {h : PH} {th r : Nat} {a : Nat → Nat} {hl : Int32} (hth : IsTh th) (hT : ∀ k, k < 6 → h.1 th k = nI (a k)) (h6 : h.1 th 6 = hl) (br : r < 1000) : CtI mX9_toldOfThing h [pR (some th), pI (nI r)] (fun v h' => v = (if r < 2 then -1 else if r < 8 then nI (a (r - 2)) else if r = 8 then hl else -1) ∧ h' = h) := by
  refine Ct.of (L := [some (pR (some th)), some (pI (nI r))]) rfl rfl (Nat.le_of_ble_eq_true rfl) rfl ?_
  refine J_iload_n dX9_toldOfThing_0 rfl ?_
  by_cases c1 : (nI r).toInt = 2
  · have ec1 : r = 2 := (by rw [nI_toInt (by omega)] at c1; omega)
    refine J_tabIn (tgt := 44) (2) dX9_toldOfThing_1 c1 (by decide) (by decide) rfl rfl ?_
    refine J_aload_n dX9_toldOfThing_44 rfl ?_
    refine J_getI dX9_toldOfThing_45 fX9_141 hth.s (fun _ => rfl) ?_
    refine J_cvI (hT 0 (by decide)) ?_
    exact J_retI dX9_toldOfThing_48 rfl ⟨by (repeat' split) <;> first | omega | (subst ec1; rfl) | rfl, rfl⟩
  have c1_0 : ¬ r = 2 := fun z => c1 (by rw [nI_toInt (by omega)]; omega)
  clear c1
  by_cases c1 : (nI r).toInt = 3
  · have ec1 : r = 3 := (by rw [nI_toInt (by omega)] at c1; omega)
    refine J_tabIn (tgt := 49) (3) dX9_toldOfThing_1 c1 (by decide) (by decide) rfl rfl ?_
    refine J_aload_n dX9_toldOfThing_49 rfl ?_
    refine J_getI dX9_toldOfThing_50 fX9_146 hth.s (fun _ => rfl) ?_
    refine J_cvI (hT 1 (by decide)) ?_
    exact J_retI dX9_toldOfThing_53 rfl ⟨by (repeat' split) <;> first | omega | (subst ec1; rfl) | rfl, rfl⟩
  have c1_1 : ¬ r = 3 := fun z => c1 (by rw [nI_toInt (by omega)]; omega)
  clear c1
  by_cases c1 : (nI r).toInt = 4
  · have ec1 : r = 4 := (by rw [nI_toInt (by omega)] at c1; omega)
    refine J_tabIn (tgt := 54) (4) dX9_toldOfThing_1 c1 (by decide) (by decide) rfl rfl ?_
    refine J_aload_n dX9_toldOfThing_54 rfl ?_
    refine J_getI dX9_toldOfThing_55 fX9_149 hth.s (fun _ => rfl) ?_
    refine J_cvI (hT 2 (by decide)) ?_
    exact J_retI dX9_toldOfThing_58 rfl ⟨by (repeat' split) <;> first | omega | (subst ec1; rfl) | rfl, rfl⟩
  have c1_2 : ¬ r = 4 := fun z => c1 (by rw [nI_toInt (by omega)]; omega)
  clear c1
  by_cases c1 : (nI r).toInt = 5
  · have ec1 : r = 5 := (by rw [nI_toInt (by omega)] at c1; omega)
    refine J_tabIn (tgt := 59) (5) dX9_toldOfThing_1 c1 (by decide) (by decide) rfl rfl ?_
    refine J_aload_n dX9_toldOfThing_59 rfl ?_
    refine J_getI dX9_toldOfThing_60 fX9_152 hth.s (fun _ => rfl) ?_
    refine J_cvI (hT 3 (by decide)) ?_
    exact J_retI dX9_toldOfThing_63 rfl ⟨by (repeat' split) <;> first | omega | (subst ec1; rfl) | rfl, rfl⟩
  have c1_3 : ¬ r = 5 := fun z => c1 (by rw [nI_toInt (by omega)]; omega)
  clear c1
  by_cases c1 : (nI r).toInt = 6
  · have ec1 : r = 6 := (by rw [nI_toInt (by omega)] at c1; omega)
    refine J_tabIn (tgt := 64) (6) dX9_toldOfThing_1 c1 (by decide) (by decide) rfl rfl ?_
    refine J_aload_n dX9_toldOfThing_64 rfl ?_
    refine J_getI dX9_toldOfThing_65 fX9_155 hth.s (fun _ => rfl) ?_
    refine J_cvI (hT 4 (by decide)) ?_
    exact J_retI dX9_toldOfThing_68 rfl ⟨by (repeat' split) <;> first | omega | (subst ec1; rfl) | rfl, rfl⟩
  have c1_4 : ¬ r = 6 := fun z => c1 (by rw [nI_toInt (by omega)]; omega)
  clear c1
  by_cases c1 : (nI r).toInt = 7
  · have ec1 : r = 7 := (by rw [nI_toInt (by omega)] at c1; omega)
    refine J_tabIn (tgt := 69) (7) dX9_toldOfThing_1 c1 (by decide) (by decide) rfl rfl ?_
    refine J_aload_n dX9_toldOfThing_69 rfl ?_
    refine J_getI dX9_toldOfThing_70 fX9_158 hth.s (fun _ => rfl) ?_
    refine J_cvI (hT 5 (by decide)) ?_
    exact J_retI dX9_toldOfThing_73 rfl ⟨by (repeat' split) <;> first | omega | (subst ec1; rfl) | rfl, rfl⟩
  have c1_5 : ¬ r = 7 := fun z => c1 (by rw [nI_toInt (by omega)]; omega)
  clear c1
  by_cases c1 : (nI r).toInt = 8
  · have ec1 : r = 8 := (by rw [nI_toInt (by omega)] at c1; omega)
    refine J_tabIn (tgt := 74) (8) dX9_toldOfThing_1 c1 (by decide) (by decide) rfl rfl ?_
    refine J_aload_n dX9_toldOfThing_74 rfl ?_
    refine J_getI dX9_toldOfThing_75 fX9_161 hth.s (fun _ => rfl) ?_
    refine J_cvI (h6) ?_
    exact J_retI dX9_toldOfThing_78 rfl ⟨by (repeat' split) <;> first | omega | (subst ec1; rfl) | rfl, rfl⟩
  have c1_6 : ¬ r = 8 := fun z => c1 (by rw [nI_toInt (by omega)]; omega)
  clear c1
  refine J_tabOut (tgt := 79) dX9_toldOfThing_1 (by rw [nI_toInt (by omega)]; omega) rfl ?_
  refine J_iconst (x := -1) dX9_toldOfThing_79 (by decide) ?_
  exact J_retI dX9_toldOfThing_80 rfl ⟨by (repeat' split) <;> first | omega | (subst ec1; rfl) | rfl, rfl⟩
theorem c_X9_toldByNumber {h : PH} {p : Nat} {A : AS} {j : Nat} (hG : GR h.2.2) (hX : XI h p A) (hW : WF A) (h1 : 5 ≤ j) (h2 : j < 90) : CtI mX9_toldByNumber h [pR (some 0), pI (nI j)] (fun v h' => v = toldN (aP A) j ∧ XP h h' p A) := by
  have bN := hW.1
  have bk := hW.wk
  have bc := hW.cs
  have bw := hW.wn
  have bt := hW.tn
  have bf := hW.fn
  refine Ct.of (L := [some (pR (some 0)), some (pI (nI j)), none]) rfl rfl (Nat.le_of_ble_eq_true rfl) rfl ?_
  refine J_iload_n dX9_toldByNumber_0 rfl ?_
  refine J_bipush (x := nI 10) dX9_toldByNumber_1 (by decide) ?_
  refine J_icmp_ltN dX9_toldByNumber_3 (by omega) (by omega) (fun c1 => ?_) (fun c1 => ?_)
  · refine J_iconst (x := -1) dX9_toldByNumber_12 (by decide) ?_
    exact J_retI dX9_toldByNumber_13 rfl ⟨by unfold toldN; (repeat' split) <;> first | omega | rfl, ⟨hX, Fr.rf⟩⟩
  · refine J_iload_n dX9_toldByNumber_6 rfl ?_
    refine J_bipush (x := nI 90) dX9_toldByNumber_7 (by decide) ?_
    refine J_icmp_ltN dX9_toldByNumber_9 (by omega) (by omega) (fun c2 => ?_) (fun c2 => ?_)
    · refine J_iload_n dX9_toldByNumber_14 rfl ?_
      refine J_bipush (x := nI 10) dX9_toldByNumber_15 (by decide) ?_
      refine J_iremN dX9_toldByNumber_17 (by omega) (by omega) (by omega) ?_
      refine J_istore_n (L' := [some (pR (some 0)), some (pI (nI j)), some (pI (nI (j % 10)))]) dX9_toldByNumber_18 (by decide) rfl ?_
      refine J_iload_n dX9_toldByNumber_19 rfl ?_
      refine J_bipush (x := nI 20) dX9_toldByNumber_20 (by decide) ?_
      refine J_icmp_geN dX9_toldByNumber_22 (by omega) (by omega) (fun c3 => ?_) (fun c3 => ?_)
      · refine J_aload_n dX9_toldByNumber_48 rfl ?_
        refine J_iload_n dX9_toldByNumber_49 rfl ?_
        refine J_cVI (ci := 9) (c := 0) (as := [pI (nI (j % 10))]) (st := []) dX9_toldByNumber_50 lX9_130 okX9_hasThing vX9_hasThing s0 (by decide) rfl rfl rfl (Nat.le_of_ble_eq_true rfl) ⟨Nat.le_of_ble_eq_true rfl, Nat.le_of_ble_eq_true rfl⟩ CR.f (c_X9_hasThing hG hX.po hX.cu hX.tn (by omega)) (fun vq4 gq4 eq4 => ?_)
        obtain ⟨rfl, fq4⟩ := eq4
        rw [fq4]
        refine J_cvI (bI_congr (inR_nI_iff (by omega))) ?_
        refine J_if_eqB dX9_toldByNumber_53 (fun c5 => ?_) (fun c5 => ?_)
        · refine J_iconst (x := -1) dX9_toldByNumber_75 (by decide) ?_
          exact J_retI dX9_toldByNumber_76 rfl ⟨by unfold toldN; (repeat' split) <;> first | omega | rfl, ⟨hX, Fr.rf⟩⟩
        · have hk := c5
          have bx := hW.tn
          refine J_aload_n dX9_toldByNumber_56 rfl ?_
          refine J_getR (r := some p) dX9_toldByNumber_57 fX9_20 s0 (fun _ => rfl) (hX.cu) ?_
          refine J_getR (r := some (p + 7)) dX9_toldByNumber_60 fX9_133 hX.po.s (fun _ => rfl) (hX.po.e10 hG) ?_
          refine J_iload_n dX9_toldByNumber_63 rfl ?_
          refine J_aald4N (r := some (p + 9 + 7 * (j % 10))) dX9_toldByNumber_64 hX.po.s7 (by decide) (by omega) (hX.po.eth hG (by omega)) ?_
          refine J_iload_n dX9_toldByNumber_65 rfl ?_
          refine J_bipush (x := nI 10) dX9_toldByNumber_66 (by decide) ?_
          refine J_idivN dX9_toldByNumber_68 (by omega) (by omega) (by omega) ?_
          refine J_cSI (as := [pR (some (p + 9 + 7 * (j % 10))), pI (nI (j / 10))]) (st := []) dX9_toldByNumber_69 lX9_137 okX9_toldOfThing sX9_toldOfThing rfl rfl (Nat.le_of_ble_eq_true rfl) ⟨Nat.le_of_ble_eq_true rfl, Nat.le_of_ble_eq_true rfl⟩ CR.f (c_X9_toldOfThing (hX.th hW hk) (fun k hk2 => hX.t hk hk2) (hX.h6 hk) (by omega)) (fun vq6 gq6 eq6 => ?_)
          obtain ⟨rfl, fq6⟩ := eq6
          rw [fq6]
          refine J_goto dX9_toldByNumber_72 ?_
          exact J_retI dX9_toldByNumber_76 rfl ⟨by unfold toldN; (repeat' split) <;> first | omega | rfl, ⟨hX, Fr.rf⟩⟩
      · refine J_aload_n dX9_toldByNumber_25 rfl ?_
        refine J_iload_n dX9_toldByNumber_26 rfl ?_
        refine J_cVI (ci := 9) (c := 0) (as := [pI (nI (j % 10))]) (st := []) dX9_toldByNumber_27 lX9_123 okX9_hasWinter vX9_hasWinter s0 (by decide) rfl rfl rfl (Nat.le_of_ble_eq_true rfl) ⟨Nat.le_of_ble_eq_true rfl, Nat.le_of_ble_eq_true rfl⟩ CR.f (c_X9_hasWinter hG hX.po hX.cu hX.wn (by omega)) (fun vq7 gq7 eq7 => ?_)
        obtain ⟨rfl, fq7⟩ := eq7
        rw [fq7]
        refine J_cvI (bI_congr (inR_nI_iff (by omega))) ?_
        refine J_if_eqB dX9_toldByNumber_30 (fun c8 => ?_) (fun c8 => ?_)
        · refine J_iconst (x := -1) dX9_toldByNumber_46 (by decide) ?_
          exact J_retI dX9_toldByNumber_47 rfl ⟨by unfold toldN; (repeat' split) <;> first | omega | rfl, ⟨hX, Fr.rf⟩⟩
        · have hk := c8
          have bx := hW.x c8
          refine J_aload_n dX9_toldByNumber_33 rfl ?_
          refine J_getR (r := some p) dX9_toldByNumber_34 fX9_20 s0 (fun _ => rfl) (hX.cu) ?_
          refine J_getR (r := some (p + 1)) dX9_toldByNumber_37 fX9_127 hX.po.s (fun _ => rfl) (hX.po.e8 hG) ?_
          refine J_iload_n dX9_toldByNumber_40 rfl ?_
          refine J_laldN dX9_toldByNumber_41 hX.po.s1 (by decide) (by omega) ?_
          refine J_cvL (hX.x hk) ?_
          refine J_l2i dX9_toldByNumber_42 ?_
          refine J_cvI (lN_to (by omega)) ?_
          refine J_goto dX9_toldByNumber_43 ?_
          exact J_retI dX9_toldByNumber_47 rfl ⟨by unfold toldN; (repeat' split) <;> first | omega | rfl, ⟨hX, Fr.rf⟩⟩
    · refine J_iconst (x := -1) dX9_toldByNumber_12 (by decide) ?_
      exact J_retI dX9_toldByNumber_13 rfl ⟨by unfold toldN; (repeat' split) <;> first | omega | rfl, ⟨hX, Fr.rf⟩⟩
theorem c_X9_toldByNumber_out {h : PH} {p : Nat} {A : AS} {x : Int32} (hG : GR h.2.2) (hX : XI h p A) (hW : WF A) (hx : ¬ inR x 90) : CtI mX9_toldByNumber h [pR (some 0), pI x] (fun v h' => v = -1 ∧ XP h h' p A) := by
  have bN := hW.1
  have bk := hW.wk
  have bc := hW.cs
  have bw := hW.wn
  have bt := hW.tn
  have bf := hW.fn
  refine Ct.of (L := [some (pR (some 0)), some (pI x), none]) rfl rfl (Nat.le_of_ble_eq_true rfl) rfl ?_
  refine J_iload_n dX9_toldByNumber_0 rfl ?_
  refine J_bipush (x := nI 10) dX9_toldByNumber_1 (by decide) ?_
  refine J_icmp_lt dX9_toldByNumber_3 (fun c1 => ?_) (fun c1 => ?_)
  · refine J_iconst (x := -1) dX9_toldByNumber_12 (by decide) ?_
    exact J_retI dX9_toldByNumber_13 rfl ⟨rfl, ⟨hX, Fr.rf⟩⟩
  · refine J_iload_n dX9_toldByNumber_6 rfl ?_
    refine J_bipush (x := nI 90) dX9_toldByNumber_7 (by decide) ?_
    refine J_icmp_lt dX9_toldByNumber_9 (fun c2 => ?_) (fun c2 => ?_)
    · exact absurd (inR_a (by decide) (fun z => c1 (Int32.lt_trans z (by decide))) c2) hx
    · refine J_iconst (x := -1) dX9_toldByNumber_12 (by decide) ?_
      exact J_retI dX9_toldByNumber_13 rfl ⟨rfl, ⟨hX, Fr.rf⟩⟩
theorem c_X9_told_in {h : PH} {p : Nat} {A : AS} {j : Nat} (hG : GR h.2.2) (hX : XI h p A) (hW : WF A) (hj : j < 90) : CtI mX9_told h [pR (some 0), pI (nI j)] (fun v h' => v = toldN (aP A) j ∧ XP h h' p A) := by
  have bN := hW.1
  have bk := hW.wk
  have bc := hW.cs
  have bw := hW.wn
  have bt := hW.tn
  have bf := hW.fn
  refine Ct.of (L := [some (pR (some 0)), some (pI (nI j))]) rfl rfl (Nat.le_of_ble_eq_true rfl) rfl ?_
  refine J_iload_n dX9_told_0 rfl ?_
  by_cases c1 : (nI j).toInt = 0
  · have ec1 : j = 0 := (by rw [nI_toInt (by omega)] at c1; omega)
    refine J_tabIn (tgt := 36) (0) dX9_told_1 c1 (by decide) (by decide) rfl rfl ?_
    refine J_aload_n dX9_told_36 rfl ?_
    refine J_getR (r := some p) dX9_told_37 fX9_20 s0 (fun _ => rfl) (hX.cu) ?_
    refine J_getI dX9_told_40 fX9_104 hX.po.s (fun _ => rfl) ?_
    refine J_cvI (hX.wk) ?_
    exact J_retI dX9_told_43 rfl ⟨by unfold toldN; rw [if_pos (by omega), ec1], ⟨hX, Fr.rf⟩⟩
  have c1_0 : ¬ j = 0 := fun z => c1 (by rw [nI_toInt (by omega)]; omega)
  clear c1
  by_cases c1 : (nI j).toInt = 1
  · have ec1 : j = 1 := (by rw [nI_toInt (by omega)] at c1; omega)
    refine J_tabIn (tgt := 44) (1) dX9_told_1 c1 (by decide) (by decide) rfl rfl ?_
    refine J_aload_n dX9_told_44 rfl ?_
    refine J_getR (r := some p) dX9_told_45 fX9_20 s0 (fun _ => rfl) (hX.cu) ?_
    refine J_getI dX9_told_48 fX9_107 hX.po.s (fun _ => rfl) ?_
    refine J_cvI (hX.cs) ?_
    exact J_retI dX9_told_51 rfl ⟨by unfold toldN; rw [if_pos (by omega), ec1], ⟨hX, Fr.rf⟩⟩
  have c1_1 : ¬ j = 1 := fun z => c1 (by rw [nI_toInt (by omega)]; omega)
  clear c1
  by_cases c1 : (nI j).toInt = 2
  · have ec1 : j = 2 := (by rw [nI_toInt (by omega)] at c1; omega)
    refine J_tabIn (tgt := 52) (2) dX9_told_1 c1 (by decide) (by decide) rfl rfl ?_
    refine J_aload_n dX9_told_52 rfl ?_
    refine J_getR (r := some p) dX9_told_53 fX9_20 s0 (fun _ => rfl) (hX.cu) ?_
    refine J_getI dX9_told_56 fX9_110 hX.po.s (fun _ => rfl) ?_
    refine J_cvI (hX.wn) ?_
    exact J_retI dX9_told_59 rfl ⟨by unfold toldN; rw [if_pos (by omega), ec1], ⟨hX, Fr.rf⟩⟩
  have c1_2 : ¬ j = 2 := fun z => c1 (by rw [nI_toInt (by omega)]; omega)
  clear c1
  by_cases c1 : (nI j).toInt = 3
  · have ec1 : j = 3 := (by rw [nI_toInt (by omega)] at c1; omega)
    refine J_tabIn (tgt := 60) (3) dX9_told_1 c1 (by decide) (by decide) rfl rfl ?_
    refine J_aload_n dX9_told_60 rfl ?_
    refine J_getR (r := some p) dX9_told_61 fX9_20 s0 (fun _ => rfl) (hX.cu) ?_
    refine J_getI dX9_told_64 fX9_113 hX.po.s (fun _ => rfl) ?_
    refine J_cvI (hX.tn) ?_
    exact J_retI dX9_told_67 rfl ⟨by unfold toldN; rw [if_pos (by omega), ec1], ⟨hX, Fr.rf⟩⟩
  have c1_3 : ¬ j = 3 := fun z => c1 (by rw [nI_toInt (by omega)]; omega)
  clear c1
  by_cases c1 : (nI j).toInt = 4
  · have ec1 : j = 4 := (by rw [nI_toInt (by omega)] at c1; omega)
    refine J_tabIn (tgt := 68) (4) dX9_told_1 c1 (by decide) (by decide) rfl rfl ?_
    refine J_aload_n dX9_told_68 rfl ?_
    refine J_getR (r := some p) dX9_told_69 fX9_20 s0 (fun _ => rfl) (hX.cu) ?_
    refine J_getI dX9_told_72 fX9_116 hX.po.s (fun _ => rfl) ?_
    refine J_cvI (hX.fn) ?_
    exact J_retI dX9_told_75 rfl ⟨by unfold toldN; rw [if_pos (by omega), ec1], ⟨hX, Fr.rf⟩⟩
  have c1_4 : ¬ j = 4 := fun z => c1 (by rw [nI_toInt (by omega)]; omega)
  clear c1
  refine J_tabOut (tgt := 76) dX9_told_1 (by rw [nI_toInt (by omega)]; omega) rfl ?_
  refine J_aload_n dX9_told_76 rfl ?_
  refine J_iload_n dX9_told_77 rfl ?_
  refine J_cVI (ci := 9) (c := 0) (as := [pI (nI j)]) (st := []) dX9_told_78 lX9_119 okX9_toldByNumber vX9_toldByNumber s0 (by decide) rfl rfl rfl (Nat.le_of_ble_eq_true rfl) ⟨Nat.le_of_ble_eq_true rfl, Nat.le_of_ble_eq_true rfl⟩ CR.f (c_X9_toldByNumber hG hX hW (by omega) hj) (fun v5 g5 e5 => ?_)
  exact J_retI dX9_told_81 rfl e5
theorem c_X9_told_out {h : PH} {p : Nat} {A : AS} {x : Int32} (hG : GR h.2.2) (hX : XI h p A) (hW : WF A) (hx : ¬ inR x 90) : CtI mX9_told h [pR (some 0), pI x] (fun v h' => v = -1 ∧ XP h h' p A) := by
  have bN := hW.1
  have bk := hW.wk
  have bc := hW.cs
  have bw := hW.wn
  have bt := hW.tn
  have bf := hW.fn
  refine Ct.of (L := [some (pR (some 0)), some (pI x)]) rfl rfl (Nat.le_of_ble_eq_true rfl) rfl ?_
  refine J_iload_n dX9_told_0 rfl ?_
  by_cases c1 : (x).toInt = 0
  · exact absurd ⟨by omega, by omega⟩ hx
  have c1_0 := c1
  clear c1
  by_cases c1 : (x).toInt = 1
  · exact absurd ⟨by omega, by omega⟩ hx
  have c1_1 := c1
  clear c1
  by_cases c1 : (x).toInt = 2
  · exact absurd ⟨by omega, by omega⟩ hx
  have c1_2 := c1
  clear c1
  by_cases c1 : (x).toInt = 3
  · exact absurd ⟨by omega, by omega⟩ hx
  have c1_3 := c1
  clear c1
  by_cases c1 : (x).toInt = 4
  · exact absurd ⟨by omega, by omega⟩ hx
  have c1_4 := c1
  clear c1
  refine J_tabOut (tgt := 76) dX9_told_1 (by omega) rfl ?_
  refine J_aload_n dX9_told_76 rfl ?_
  refine J_iload_n dX9_told_77 rfl ?_
  refine J_cVI (ci := 9) (c := 0) (as := [pI x]) (st := []) dX9_told_78 lX9_119 okX9_toldByNumber vX9_toldByNumber s0 (by decide) rfl rfl rfl (Nat.le_of_ble_eq_true rfl) ⟨Nat.le_of_ble_eq_true rfl, Nat.le_of_ble_eq_true rfl⟩ CR.f (c_X9_toldByNumber_out hG hX hW hx) (fun v5 g5 e5 => ?_)
  exact J_retI dX9_told_81 rfl e5
theorem c_X9_told {h : PH} {p : Nat} {A : AS} {x : Int32} (hG : GR h.2.2) (hX : XI h p A) (hW : WF A) : CtI mX9_told h [pR (some 0), pI x] (fun v h' => v = toldA (aP A) x ∧ XP h h' p A) := by
  by_cases hx : inR x 90
  · obtain ⟨j, hj, rfl⟩ := inR_of hx
    rw [toldA, if_pos hx, cl, nI_clamp (by omega)]
    exact c_X9_told_in hG hX hW hj
  · rw [toldA, if_neg hx]
    exact c_X9_told_out hG hX hW hx
theorem c_X10_told_in {h : PH} {A : AS} {j : Nat} (hG : GR h.2.2) (hM : MI h A) (hW : WF A) (hj : j < 90) : CtI mX10_told h [pR (some 158), pI (nI j)] (fun v h' => v = toldN (aP A) j ∧ MP h h' A) := by
  have bN := hW.1
  have bk := hW.wk
  have bc := hW.cs
  have bw := hW.wn
  have bt := hW.tn
  have bf := hW.fn
  refine Ct.of (L := [some (pR (some 158)), some (pI (nI j)), none]) rfl rfl (Nat.le_of_ble_eq_true rfl) rfl ?_
  refine J_iload_n dX10_told_0 rfl ?_
  refine J_iconstN (n := 0) dX10_told_1 ?_
  refine J_iconstN (n := 4) dX10_told_2 ?_
  refine J_cSI (as := [pI (nI j), pI (nI 0), pI (nI 4)]) (st := []) dX10_told_3 lX10_172 okX10_in sX10_in rfl rfl (Nat.le_of_ble_eq_true rfl) ⟨Nat.le_of_ble_eq_true rfl, Nat.le_of_ble_eq_true rfl⟩ CR.f (c_X10_in) (fun vq1 gq1 eq1 => ?_)
  obtain ⟨rfl, fq1⟩ := eq1
  rw [fq1]
  refine J_cvI (bI_congr (inN (by omega) (by omega) (by omega))) ?_
  refine J_if_eqB dX10_told_6 (fun c2 => ?_) (fun c2 => ?_)
  · refine J_iload_n dX10_told_16 rfl ?_
    refine J_bipush (x := nI 10) dX10_told_17 (by decide) ?_
    refine J_iremN dX10_told_19 (by omega) (by omega) (by omega) ?_
    refine J_istore_n (L' := [some (pR (some 158)), some (pI (nI j)), some (pI (nI (j % 10)))]) dX10_told_20 (by decide) rfl ?_
    refine J_iload_n dX10_told_21 rfl ?_
    refine J_bipush (x := nI 10) dX10_told_22 (by decide) ?_
    refine J_bipush (x := nI 19) dX10_told_24 (by decide) ?_
    refine J_cSI (as := [pI (nI j), pI (nI 10), pI (nI 19)]) (st := []) dX10_told_26 lX10_172 okX10_in sX10_in rfl rfl (Nat.le_of_ble_eq_true rfl) ⟨Nat.le_of_ble_eq_true rfl, Nat.le_of_ble_eq_true rfl⟩ CR.f (c_X10_in) (fun vq3 gq3 eq3 => ?_)
    obtain ⟨rfl, fq3⟩ := eq3
    rw [fq3]
    refine J_cvI (bI_congr (inN (by omega) (by omega) (by omega))) ?_
    refine J_if_eqB dX10_told_29 (fun c4 => ?_) (fun c4 => ?_)
    · refine J_iload_n dX10_told_50 rfl ?_
      refine J_bipush (x := nI 20) dX10_told_51 (by decide) ?_
      refine J_bipush (x := nI 89) dX10_told_53 (by decide) ?_
      refine J_cSI (as := [pI (nI j), pI (nI 20), pI (nI 89)]) (st := []) dX10_told_55 lX10_172 okX10_in sX10_in rfl rfl (Nat.le_of_ble_eq_true rfl) ⟨Nat.le_of_ble_eq_true rfl, Nat.le_of_ble_eq_true rfl⟩ CR.f (c_X10_in) (fun vq5 gq5 eq5 => ?_)
      obtain ⟨rfl, fq5⟩ := eq5
      rw [fq5]
      refine J_cvI (bI_congr (inN (by omega) (by omega) (by omega))) ?_
      refine J_if_eqB dX10_told_58 (fun c6 => ?_) (fun c6 => ?_)
      · refine J_iconst (x := -1) dX10_told_69 (by decide) ?_
        exact J_retI dX10_told_70 rfl ⟨by unfold toldN; (repeat' split) <;> first | omega | rfl, ⟨hM, Fr.rf⟩⟩
      · refine J_aload_n dX10_told_61 rfl ?_
        refine J_iload_n dX10_told_62 rfl ?_
        refine J_cVI (ci := 10) (c := 158) (as := [pI (nI (j % 10))]) (st := []) dX10_told_63 lX10_243 okX10_isThing vX10_isThing s158 (by decide) rfl rfl rfl (Nat.le_of_ble_eq_true rfl) ⟨Nat.le_of_ble_eq_true rfl, Nat.le_of_ble_eq_true rfl⟩ CR.f (c_X10_isThing hG (hM.nm (by decide)) (by omega)) (fun vq7 gq7 eq7 => ?_)
        obtain ⟨rfl, fq7⟩ := eq7
        rw [fq7]
        refine J_cvI (bI_congr (inR_nI_iff (by omega))) ?_
        refine J_if_neB dX10_told_66 (fun c8 => ?_) (fun c8 => ?_)
        · have hk := c8
          refine J_iload_n dX10_told_71 rfl ?_
          refine J_bipush (x := nI 80) dX10_told_72 (by decide) ?_
          refine J_icmp_geN dX10_told_74 (by omega) (by omega) (fun c9 => ?_) (fun c9 => ?_)
          · refine J_aload_n dX10_told_91 rfl ?_
            refine J_getR (r := some 168) dX10_told_92 fX10_44 s158 (fun _ => rfl) (g158_20 hG) ?_
            refine J_iload_n dX10_told_95 rfl ?_
            refine J_ialdN dX10_told_96 s168 (by decide) (by omega) ?_
            refine J_cvI ((hM.h6 hk)) ?_
            exact J_retI dX10_told_97 rfl ⟨by unfold toldN; (repeat' split) <;> first | omega | rfl, ⟨hM, Fr.rf⟩⟩
          · refine J_aload_n dX10_told_77 rfl ?_
            refine J_iload_n dX10_told_78 rfl ?_
            refine J_iload_n dX10_told_79 rfl ?_
            refine J_bipush (x := nI 10) dX10_told_80 (by decide) ?_
            refine J_idivN dX10_told_82 (by omega) (by omega) (by omega) ?_
            refine J_iconstN (n := 2) dX10_told_83 ?_
            refine J_isubN dX10_told_84 (by omega) ?_
            refine J_cVI (ci := 10) (c := 158) (as := [pI (nI (j % 10)), pI (nI (j / 10 - 2))]) (st := []) dX10_told_85 lX10_246 okX10_of vX10_of s158 (by decide) rfl rfl rfl (Nat.le_of_ble_eq_true rfl) ⟨Nat.le_of_ble_eq_true rfl, Nat.le_of_ble_eq_true rfl⟩ CR.f (c_X10_of hG (by omega) (by omega) (hM.t hk (by omega))) (fun vq10 gq10 eq10 => ?_)
            obtain ⟨rfl, fq10⟩ := eq10
            rw [fq10]
            refine J_goto dX10_told_88 ?_
            exact J_retI dX10_told_97 rfl ⟨by unfold toldN; (repeat' split) <;> first | omega | rfl, ⟨hM, Fr.rf⟩⟩
        · refine J_iconst (x := -1) dX10_told_69 (by decide) ?_
          exact J_retI dX10_told_70 rfl ⟨by unfold toldN; (repeat' split) <;> first | omega | rfl, ⟨hM, Fr.rf⟩⟩
    · refine J_aload_n dX10_told_32 rfl ?_
      refine J_iload_n dX10_told_33 rfl ?_
      refine J_cVI (ci := 10) (c := 158) (as := [pI (nI (j % 10))]) (st := []) dX10_told_34 lX10_237 okX10_isWinter vX10_isWinter s158 (by decide) rfl rfl rfl (Nat.le_of_ble_eq_true rfl) ⟨Nat.le_of_ble_eq_true rfl, Nat.le_of_ble_eq_true rfl⟩ CR.f (c_X10_isWinter hG (hM.nm (by decide)) (by omega)) (fun vq11 gq11 eq11 => ?_)
      obtain ⟨rfl, fq11⟩ := eq11
      rw [fq11]
      refine J_cvI (bI_congr (inR_nI_iff (by omega))) ?_
      refine J_if_eqB dX10_told_37 (fun c12 => ?_) (fun c12 => ?_)
      · refine J_iconst (x := -1) dX10_told_48 (by decide) ?_
        exact J_retI dX10_told_49 rfl ⟨by unfold toldN; (repeat' split) <;> first | omega | rfl, ⟨hM, Fr.rf⟩⟩
      · have hk := c12
        refine J_aload_n dX10_told_40 rfl ?_
        refine J_iload_n dX10_told_41 rfl ?_
        refine J_cVI (ci := 10) (c := 158) (as := [pI (nI (j % 10))]) (st := []) dX10_told_42 lX10_240 okX10_weight vX10_weight s158 (by decide) rfl rfl rfl (Nat.le_of_ble_eq_true rfl) ⟨Nat.le_of_ble_eq_true rfl, Nat.le_of_ble_eq_true rfl⟩ CR.f (c_X10_weight hG (by omega) (hM.x hk)) (fun vq13 gq13 eq13 => ?_)
        obtain ⟨rfl, fq13⟩ := eq13
        rw [fq13]
        refine J_goto dX10_told_45 ?_
        exact J_retI dX10_told_49 rfl ⟨by unfold toldN; (repeat' split) <;> first | omega | rfl, ⟨hM, Fr.rf⟩⟩
  · refine J_aload_n dX10_told_9 rfl ?_
    refine J_getR (r := some 160) dX10_told_10 fX10_17 s158 (fun _ => rfl) (g158_12 hG) ?_
    refine J_iload_n dX10_told_13 rfl ?_
    refine J_ialdN dX10_told_14 s160 (by decide) (by omega) ?_
    refine J_cvI ((hM.nm (by omega))) ?_
    exact J_retI dX10_told_15 rfl ⟨by unfold toldN; (repeat' split) <;> first | omega | rfl, ⟨hM, Fr.rf⟩⟩
theorem c_X10_told_out {h : PH} {A : AS} {x : Int32} (hG : GR h.2.2) (hM : MI h A) (hW : WF A) (hx : ¬ inR x 90) : CtI mX10_told h [pR (some 158), pI x] (fun v h' => v = -1 ∧ MP h h' A) := by
  have bN := hW.1
  have bk := hW.wk
  have bc := hW.cs
  have bw := hW.wn
  have bt := hW.tn
  have bf := hW.fn
  refine Ct.of (L := [some (pR (some 158)), some (pI x), none]) rfl rfl (Nat.le_of_ble_eq_true rfl) rfl ?_
  refine J_iload_n dX10_told_0 rfl ?_
  refine J_iconstN (n := 0) dX10_told_1 ?_
  refine J_iconstN (n := 4) dX10_told_2 ?_
  refine J_cSI (as := [pI x, pI (nI 0), pI (nI 4)]) (st := []) dX10_told_3 lX10_172 okX10_in sX10_in rfl rfl (Nat.le_of_ble_eq_true rfl) ⟨Nat.le_of_ble_eq_true rfl, Nat.le_of_ble_eq_true rfl⟩ CR.f (c_X10_in) (fun vq1 gq1 eq1 => ?_)
  obtain ⟨rfl, fq1⟩ := eq1
  rw [fq1]
  refine J_cvI (bI_congr (in_iffN (b := 4) (by decide))) ?_
  refine J_if_eqB dX10_told_6 (fun c2 => ?_) (fun c2 => ?_)
  · refine J_iload_n dX10_told_16 rfl ?_
    refine J_bipush (x := nI 10) dX10_told_17 (by decide) ?_
    refine J_irem dX10_told_19 (by decide) ?_
    refine J_istore_n (L' := [some (pR (some 158)), some (pI x), some (pI (x - x / (nI 10) * (nI 10)))]) dX10_told_20 (by decide) rfl ?_
    refine J_iload_n dX10_told_21 rfl ?_
    refine J_bipush (x := nI 10) dX10_told_22 (by decide) ?_
    refine J_bipush (x := nI 19) dX10_told_24 (by decide) ?_
    refine J_cSI (as := [pI x, pI (nI 10), pI (nI 19)]) (st := []) dX10_told_26 lX10_172 okX10_in sX10_in rfl rfl (Nat.le_of_ble_eq_true rfl) ⟨Nat.le_of_ble_eq_true rfl, Nat.le_of_ble_eq_true rfl⟩ CR.f (c_X10_in) (fun vq3 gq3 eq3 => ?_)
    obtain ⟨rfl, fq3⟩ := eq3
    rw [fq3]
    refine J_if_eqB dX10_told_29 (fun c4 => ?_) (fun c4 => ?_)
    · refine J_iload_n dX10_told_50 rfl ?_
      refine J_bipush (x := nI 20) dX10_told_51 (by decide) ?_
      refine J_bipush (x := nI 89) dX10_told_53 (by decide) ?_
      refine J_cSI (as := [pI x, pI (nI 20), pI (nI 89)]) (st := []) dX10_told_55 lX10_172 okX10_in sX10_in rfl rfl (Nat.le_of_ble_eq_true rfl) ⟨Nat.le_of_ble_eq_true rfl, Nat.le_of_ble_eq_true rfl⟩ CR.f (c_X10_in) (fun vq5 gq5 eq5 => ?_)
      obtain ⟨rfl, fq5⟩ := eq5
      rw [fq5]
      refine J_if_eqB dX10_told_58 (fun c6 => ?_) (fun c6 => ?_)
      · refine J_iconst (x := -1) dX10_told_69 (by decide) ?_
        exact J_retI dX10_told_70 rfl ⟨rfl, ⟨hM, Fr.rf⟩⟩
      · exact absurd (by simp only [Int32.le_iff_toInt_le, tn20, tn89] at c6; exact ⟨by omega, by omega⟩) hx
    · exact absurd (by simp only [Int32.le_iff_toInt_le, tn10, tn19] at c4; exact ⟨by omega, by omega⟩) hx
  · exact absurd ⟨c2.1, by have := c2.2; omega⟩ hx
theorem c_X10_told {h : PH} {A : AS} {x : Int32} (hG : GR h.2.2) (hM : MI h A) (hW : WF A) : CtI mX10_told h [pR (some 158), pI x] (fun v h' => v = toldA (aP A) x ∧ MP h h' A) := by
  by_cases hx : inR x 90
  · obtain ⟨j, hj, rfl⟩ := inR_of hx
    rw [toldA, if_pos hx, cl, nI_clamp (by omega)]
    exact c_X10_told_in hG hM hW hj
  · rw [toldA, if_neg hx]
    exact c_X10_told_out hG hM hW hx
