/-! ===== the fault of a token: the class ===== -/
/-- the Reader's state -/
def Rg (h : PH) (d : Nat) (T : Nat → Int32) (σ : SG) : Prop := Rp h d T σ.1 ∧ h.1 88 9 = hlp σ.2.1 ∧ (σ.2.1 ≠ 0 → h.1 88 10 = nI σ.2.2.1 ∧ ∀ i, i < σ.2.2.1 → h.1 89 i = nI (σ.2.2.2 i)) ∧ ∀ k, σ.2.1 = k + 1 → (k = 2 ∨ k = 3 ∨ k = 6) → 0 < σ.2.2.1 → NmX h T (k * 6 + cntP σ.1.1 k) (σ.1.2.1 k (cntP σ.1.1 k))
/-- a clause's number is right -/
def nOk (P : PD) (k i : Nat) (num : Nat → Nat) : Prop := num i ≤ 500 ∧ (dueK k i = 3 → loK k i ≤ num i ∧ num i ≤ hiK k i ∧ (k = 3 → i = 6 → num i ≠ 1) ∧ (lcK k i → num i + csN num i = 10)) ∧ ((k = 2 ∨ k = 3 ∨ k = 6) → i = 0 → num 0 = cntP P k) ∧ ((k = 4 ∨ k = 5) → i = 0 → num 0 < P 0 3 0) ∧ (k = 4 → i = 1 → num 1 < P 0 2 0) ∧ (k = 5 → i = 1 → num 1 < P 0 3 0)
def lenS (k : Nat) : Nat := lenJS.getD (shI k) 0
theorem lenS_b : ∀ k, k < 7 → lenS k < 8 := by decide
theorem due_4 : ∀ k, k < 7 → ∀ c, c < 8 → (dueK k c = 4 ↔ lenS k ≤ c) := by decide
theorem due_2 : ∀ k, k < 7 → ∀ c, c < 8 → dueK k c = 2 → 2 ≤ k ∧ c < 2 := by decide
theorem due_3 : ∀ k, k < 7 → ∀ c, c < 8 → dueK k c = 3 → c < 7 := by decide
def OkG (σ : SG) (b : Nat) : Prop := OkS σ.1 b ∧ σ.2.1 ≤ 7 ∧ ∀ k, σ.2.1 = k + 1 → σ.2.2.1 ≤ lenS k ∧ (k = 2 → σ.1.1 0 2 0 < 4) ∧ (k = 3 → σ.1.1 0 3 0 < 4) ∧ (k = 6 → σ.1.1 0 4 0 < 6) ∧ ∀ i, i < σ.2.2.1 → nOk σ.1.1 k i σ.2.2.2
theorem c_X5_faultOfName {h : PH} {T : Nat → Int32} {n s k c d b : Nat} {num : Nat → Nat} {S : PS} (hG : GR h.2.2) (hR : Rt h T n) (hT : Tk h T n s) (hs : s ≤ n) (hK : tkK T n s = 2) (hS : Rp h d T S) (hO : OkS S b) (hk : k < 7) (hc : c < 8) (h9 : h.1 88 9 = nI k) (h10 : h.1 88 10 = nI c) (hD : dueK k c = 2) (hN : c ≠ 0 → h.1 89 0 = nI (num 0) ∧ ((k = 4 ∨ k = 5) → num 0 < S.1 0 3 0)) : CtI mX5_faultOfName h [pR (some 88)] (fun v h' => v = nI (nameF S k c (tkV T n s) num) ∧ h' = h) := by
  have hn9 := hR.2.2.2
  have hge := tkE_ge (T := T) (n := n) (s := s)
  have hle := tkE_le (T := T) hs
  have ht := hR.1
  obtain ⟨⟨-, -, w4, t4, f6, b5⟩, -, -, -, -, -, g2, g3, g4⟩ := id hO.1
  have b9 := hO.2
  have x2 := fdN_le (g := S.2.1 2) (V := tkV T n s) (S.1 0 2 0)
  have x3 := fdN_le (g := S.2.1 3) (V := tkV T n s) (S.1 0 3 0)
  have xk := fdN_le (g := S.2.1 k) (V := tkV T n s) (cntP S.1 k)
  have hcb := cnt_b (k := k) hO
  have hdu := due_2 k hk c hc hD
  refine Ct.of (L := [some (pR (some 88))]) rfl rfl (Nat.le_of_ble_eq_true rfl) rfl ?_
  refine J_aload_n dX5_faultOfName_0 rfl ?_
  refine J_getI dX5_faultOfName_1 fX5_42 s88 (fun _ => rfl) ?_
  refine J_cvI (h9) ?_
  by_cases dt : k = 4
  · refine J_look (tgt := 32) (off := 28) dX5_faultOfName_4 rfl (by rw [dt] <;> rfl) rfl ?_
    refine J_aload_n dX5_faultOfName_32 rfl ?_
    refine J_getI dX5_faultOfName_33 fX5_169 s88 (fun _ => rfl) ?_
    refine J_cvI (h10) ?_
    refine J_if_neN dX5_faultOfName_36 (by omega) (fun d0 => ?_) (fun d0 => ?_)
    · refine J_aload_n dX5_faultOfName_47 rfl ?_
      refine J_cVI (ci := 5) (c := 88) (as := []) (st := []) dX5_faultOfName_48 lX5_188 okX5_faultOfWantedWinter vX5_faultOfWantedWinter s88 (by decide) rfl rfl rfl (Nat.le_of_ble_eq_true rfl) ⟨Nat.le_of_ble_eq_true rfl, Nat.le_of_ble_eq_true rfl⟩ CR.f (c_X5_faultOfWantedWinter hG hR hT hs hK hS hO (hN d0).1 ((hN d0).2 (by omega))) (fun vq2 gq2 eq2 => ?_)
      rw [eq2.2, eq2.1]
      exact J_retI dX5_faultOfName_51 rfl ⟨by unfold nameF; rw [if_pos dt, if_neg d0], rfl⟩
    · refine J_aload_n dX5_faultOfName_39 rfl ?_
      refine J_iconstN (n := 3) dX5_faultOfName_40 ?_
      refine J_cVI (ci := 5) (c := 88) (as := [pI (nI 3)]) (st := []) dX5_faultOfName_41 lX5_184 okX5_faultOfKnown vX5_faultOfKnown s88 (by decide) rfl rfl rfl (Nat.le_of_ble_eq_true rfl) ⟨Nat.le_of_ble_eq_true rfl, Nat.le_of_ble_eq_true rfl⟩ CR.f (c_X5_faultOfKnown hG hR hT hs hK hS hO) (fun vq3 gq3 eq3 => ?_)
      rw [eq3.2, eq3.1]
      refine J_goto dX5_faultOfName_44 ?_
      exact J_retI dX5_faultOfName_51 rfl ⟨by unfold nameF; rw [if_pos dt, if_pos d0], rfl⟩
  have dt_0 := dt
  clear dt
  by_cases dt : k = 5
  · refine J_look (tgt := 52) (off := 48) dX5_faultOfName_4 rfl (by rw [dt] <;> rfl) rfl ?_
    refine J_aload_n dX5_faultOfName_52 rfl ?_
    refine J_getI dX5_faultOfName_53 fX5_169 s88 (fun _ => rfl) ?_
    refine J_cvI (h10) ?_
    refine J_if_neN dX5_faultOfName_56 (by omega) (fun d0 => ?_) (fun d0 => ?_)
    · refine J_aload_n dX5_faultOfName_67 rfl ?_
      refine J_cVI (ci := 5) (c := 88) (as := []) (st := []) dX5_faultOfName_68 lX5_191 okX5_faultOfHelped vX5_faultOfHelped s88 (by decide) rfl rfl rfl (Nat.le_of_ble_eq_true rfl) ⟨Nat.le_of_ble_eq_true rfl, Nat.le_of_ble_eq_true rfl⟩ CR.f (c_X5_faultOfHelped hG hR hT hs hK hS hO (hN d0).1 ((hN d0).2 (by omega))) (fun vq5 gq5 eq5 => ?_)
      rw [eq5.2, eq5.1]
      exact J_retI dX5_faultOfName_71 rfl ⟨by unfold nameF; rw [if_neg (show ¬ k = 4 by omega), if_pos dt, if_neg d0], rfl⟩
    · refine J_aload_n dX5_faultOfName_59 rfl ?_
      refine J_iconstN (n := 3) dX5_faultOfName_60 ?_
      refine J_cVI (ci := 5) (c := 88) (as := [pI (nI 3)]) (st := []) dX5_faultOfName_61 lX5_184 okX5_faultOfKnown vX5_faultOfKnown s88 (by decide) rfl rfl rfl (Nat.le_of_ble_eq_true rfl) ⟨Nat.le_of_ble_eq_true rfl, Nat.le_of_ble_eq_true rfl⟩ CR.f (c_X5_faultOfKnown hG hR hT hs hK hS hO) (fun vq6 gq6 eq6 => ?_)
      rw [eq6.2, eq6.1]
      refine J_goto dX5_faultOfName_64 ?_
      exact J_retI dX5_faultOfName_71 rfl ⟨by unfold nameF; rw [if_neg (show ¬ k = 4 by omega), if_pos dt, if_pos d0], rfl⟩
  have dt_1 := dt
  clear dt
  refine J_look (tgt := 72) (off := 68) dX5_faultOfName_4 rfl (look_out hk dt_0 dt_1) rfl ?_
  refine J_aload_n dX5_faultOfName_72 rfl ?_
  refine J_aload_n dX5_faultOfName_73 rfl ?_
  refine J_getI dX5_faultOfName_74 fX5_42 s88 (fun _ => rfl) ?_
  refine J_cvI (h9) ?_
  refine J_cVI (ci := 5) (c := 88) (as := [pI (nI k)]) (st := []) dX5_faultOfName_77 lX5_194 okX5_numberNamed vX5_numberNamed s88 (by decide) rfl rfl rfl (Nat.le_of_ble_eq_true rfl) ⟨Nat.le_of_ble_eq_true rfl, Nat.le_of_ble_eq_true rfl⟩ CR.f (c_X5_numberNamed hG hR hT hs (by omega) hK hS hO) (fun vq7 gq7 eq7 => ?_)
  rw [eq7.2, eq7.1]
  refine J_iconst (x := -1) dX5_faultOfName_80 (by decide) ?_
  refine J_icmp_ne dX5_faultOfName_81 (fun d1 => ?_) (fun d1 => ?_)
  · refine J_iconstN (n := 3) dX5_faultOfName_88 ?_
    exact J_retI dX5_faultOfName_89 rfl ⟨by unfold nameF; rw [if_neg dt_0, if_neg dt_1, if_neg (fun z => d1 ((hlp_m1 (by omega)).mpr z))], rfl⟩
  · refine J_iconstN (n := 0) dX5_faultOfName_84 ?_
    refine J_goto dX5_faultOfName_85 ?_
    exact J_retI dX5_faultOfName_89 rfl ⟨by unfold nameF; rw [if_neg dt_0, if_neg dt_1, if_pos ((hlp_m1 (by omega)).mp d1)], rfl⟩
theorem c_X5_faultOfToken {h : PH} {T : Nat → Int32} {n s d b : Nat} {σ : SG} (hG : GR h.2.2) (hR : Rt h T n) (hT : Tk h T n s) (hs : s ≤ n) (hS : Rg h d T σ) (hO : OkG σ b) : CtI mX5_faultOfToken h [pR (some 88)] (fun v h' => v = nI (fOf σ (tkK T n s) (tkV T n s)) ∧ h' = h) := by
  have hn9 := hR.2.2.2
  have hge := tkE_ge (T := T) (n := n) (s := s)
  have hle := tkE_le (T := T) hs
  have ht := hR.1
  have hkb := tkK_b (T := T) (n := n) (s := s)
  have hq7 := hO.2.1
  refine Ct.of (L := [some (pR (some 88))]) rfl rfl (Nat.le_of_ble_eq_true rfl) rfl ?_
  refine J_aload_n dX5_faultOfToken_0 rfl ?_
  refine J_getI dX5_faultOfToken_1 fX5_42 s88 (fun _ => rfl) ?_
  refine J_cvI (hS.2.1) ?_
  refine J_iconst (x := -1) dX5_faultOfToken_4 (by decide) ?_
  refine J_icmp_ne dX5_faultOfToken_5 (fun d1 => ?_) (fun d1 => ?_)
  · have hz : σ.2.1 ≠ 0 := fun y => d1 ((hlp_m1 (by omega)).mpr y)
    obtain ⟨k, ek⟩ : ∃ k, k + 1 = σ.2.1 := ⟨σ.2.1 - 1, by omega⟩
    have ek1 : σ.2.1 - 1 = k := by omega
    have hk : k < 7 := by omega
    have hg := hO.2.2 k ek.symm
    have hlb := lenS_b k hk
    have hc : σ.2.2.1 < 8 := by omega
    have h9 : h.1 88 9 = nI k := hS.2.1.trans (by rw [← ek]; rfl)
    have h10 := (hS.2.2.1 hz).1
    have hN := (hS.2.2.1 hz).2
    have hdb := due_b k hk σ.2.2.1 hc
    refine J_aload_n dX5_faultOfToken_13 rfl ?_
    refine J_getI dX5_faultOfToken_14 fX5_55 s88 (fun _ => rfl) ?_
    refine J_cvI (hT.2.2.1) ?_
    refine J_aload_n dX5_faultOfToken_17 rfl ?_
    refine J_cVI (ci := 5) (c := 88) (as := []) (st := [pI (tcd (tkK T n s))]) dX5_faultOfToken_18 lX5_83 okX5_tokenDue vX5_tokenDue s88 (by decide) rfl rfl rfl (Nat.le_of_ble_eq_true rfl) ⟨Nat.le_of_ble_eq_true rfl, Nat.le_of_ble_eq_true rfl⟩ CR.f (c_X5_tokenDue hk hc h9 h10) (fun vq2 gq2 eq2 => ?_)
    rw [eq2.2, eq2.1]
    refine J_icmp_eq dX5_faultOfToken_21 (fun d2 => ?_) (fun d2 => ?_)
    · refine J_aload_n dX5_faultOfToken_26 rfl ?_
      refine J_getI dX5_faultOfToken_27 fX5_55 s88 (fun _ => rfl) ?_
      refine J_cvI (hT.2.2.1) ?_
      refine J_bipush (x := nI 110) dX5_faultOfToken_30 (by decide) ?_
      refine J_icmp_ne dX5_faultOfToken_32 (fun d3 => ?_) (fun d3 => ?_)
      · refine J_aload_n dX5_faultOfToken_40 rfl ?_
        refine J_getI dX5_faultOfToken_41 fX5_55 s88 (fun _ => rfl) ?_
        refine J_cvI (hT.2.2.1) ?_
        refine J_bipush (x := nI 119) dX5_faultOfToken_44 (by decide) ?_
        refine J_icmp_ne dX5_faultOfToken_46 (fun d4 => ?_) (fun d4 => ?_)
        · refine J_iconstN (n := 0) dX5_faultOfToken_56 ?_
          exact J_retI dX5_faultOfToken_57 rfl ⟨by unfold fOf; rw [if_neg hz, ek1, if_neg (fun y => y ((tcd_i _ hkb _ hdb).mp d2)), if_neg (fun y => d3 ((tcd_n hkb).mpr y)), if_neg (fun y => d4 ((tcd_w hkb).mpr y))], rfl⟩
        · have h2 := (tcd_w hkb).mp d4
          have hD : dueK k σ.2.2.1 = 2 := ((tcd_i _ hkb _ hdb).mp d2).symm.trans h2
          refine J_aload_n dX5_faultOfToken_49 rfl ?_
          refine J_cVI (ci := 5) (c := 88) (as := []) (st := []) dX5_faultOfToken_50 lX5_89 okX5_faultOfName vX5_faultOfName s88 (by decide) rfl rfl rfl (Nat.le_of_ble_eq_true rfl) ⟨Nat.le_of_ble_eq_true rfl, Nat.le_of_ble_eq_true rfl⟩ CR.f (c_X5_faultOfName (num := σ.2.2.2) hG hR hT hs h2 hS.1 hO.1 hk hc h9 h10 hD (fun y => ⟨hN 0 (by omega), fun z => (hg.2.2.2.2 0 (by omega)).2.2.2.1 z rfl⟩)) (fun vq6 gq6 eq6 => ?_)
          rw [eq6.2, eq6.1]
          refine J_goto dX5_faultOfToken_53 ?_
          exact J_retI dX5_faultOfToken_57 rfl ⟨by unfold fOf; rw [if_neg hz, ek1, if_neg (fun y => y ((tcd_i _ hkb _ hdb).mp d2)), if_neg (fun y => d3 ((tcd_n hkb).mpr y)), if_pos ((tcd_w hkb).mp d4)], rfl⟩
      · have h3 := (tcd_n hkb).mp d3
        have hD : dueK k σ.2.2.1 = 3 := ((tcd_i _ hkb _ hdb).mp d2).symm.trans h3
        refine J_aload_n dX5_faultOfToken_35 rfl ?_
        refine J_cVI (ci := 5) (c := 88) (as := []) (st := []) dX5_faultOfToken_36 lX5_86 okX5_faultOfNumber vX5_faultOfNumber s88 (by decide) rfl rfl rfl (Nat.le_of_ble_eq_true rfl) ⟨Nat.le_of_ble_eq_true rfl, Nat.le_of_ble_eq_true rfl⟩ CR.f (c_X5_faultOfNumber (num := σ.2.2.2) hG hk hc h9 h10 (due_3 k hk _ hc hD) (hT.2.2.2 h3) (tk_dig h3).2.2 (fun i hi => ⟨hN i hi, (hg.2.2.2.2 i hi).1⟩)) (fun vq7 gq7 eq7 => ?_)
        rw [eq7.2, eq7.1]
        exact J_retI dX5_faultOfToken_39 rfl ⟨by unfold fOf; rw [if_neg hz, ek1, if_neg (fun y => y ((tcd_i _ hkb _ hdb).mp d2)), if_pos ((tcd_n hkb).mp d3)], rfl⟩
    · refine J_iconstN (n := 1) dX5_faultOfToken_24 ?_
      exact J_retI dX5_faultOfToken_25 rfl ⟨by unfold fOf; rw [if_neg hz, ek1, if_pos (fun y => d2 ((tcd_i _ hkb _ hdb).mpr y))], rfl⟩
  · refine J_aload_n dX5_faultOfToken_8 rfl ?_
    refine J_cVI (ci := 5) (c := 88) (as := []) (st := []) dX5_faultOfToken_9 lX5_80 okX5_faultBetween vX5_faultBetween s88 (by decide) rfl rfl rfl (Nat.le_of_ble_eq_true rfl) ⟨Nat.le_of_ble_eq_true rfl, Nat.le_of_ble_eq_true rfl⟩ CR.f (c_X5_faultBetween hG hR hT hs hS.1 hO.1) (fun vq8 gq8 eq8 => ?_)
    rw [eq8.2, eq8.1]
    exact J_retI dX5_faultOfToken_12 rfl ⟨by unfold fOf; rw [if_pos ((hlp_m1 (by omega)).mp d1)], rfl⟩
