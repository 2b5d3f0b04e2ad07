theorem c_X10_goThrough {h0 : PH} {t w fr st W rk rl so sf S M : Nat} {u : Nat → Nat} (hG0 : GR h0.2.2) (ht : t < 4) (hw : w < 4) (hT0 : TM h0 t rk rl so) (hU0 : WM h0 t w u) (hW : h0.1 160 0 = nI W) (bW : W ≤ 5) (bfr : fr ≤ W) (bst : st < 60) (k35 : h0.1 158 35 = hlp sf) (bsf : sf < 100) (hsl : sf ≠ 0 → h0.1 158 36 = nI S ∧ h0.1 158 37 = nI M ∧ S < 100 ∧ M ≤ 20 ∧ st ≤ 40) : CtV mX10_goThrough h0 [pR (some 158), pI (nI t), pI (nI w), pI (nI fr), pI (nI st)] fun h' => (∀ j, j < 64 → h'.2.1 173 j = lN (DW rk rl so u sf S M fr st (W - fr) j)) ∧ (h'.2.1 175 0 = MW (fun s n => gvN rk rl s n (u 4)) rk rl so u sf S M fr st W (W - fr) ∧ h'.2.1 175 1 = MW (fun s n => lkN s n (u 4)) rk rl so u sf S M fr st W (W - fr) ∧ h'.2.1 175 2 = MW (fun s n => msN rk rl s n (u 4)) rk rl so u sf S M fr st W (W - fr) ∧ h'.2.1 175 3 = MW (fun s n => slN so (rsN rk rl s n (u 4))) rk rl so u sf S M fr st W (W - fr)) ∧ h'.2.1 175 4 = sL64 (fun s => lN (DW rk rl so u sf S M fr st (W - fr) s) * lN s) 64 ∧ h'.2.1 158 38 = CW rk rl so u sf S M fr st W (W - fr) ∧ FG h0 h' := by
  have hG := hG0
  have hu : ∀ n, n < 5 → u n ≤ 10 := fun n hn => (hU0 n hn).2
  refine Ct.of (L := [some (pR (some 158)), some (pI (nI t)), some (pI (nI w)), some (pI (nI fr)), some (pI (nI st)), none, none, none, none, none, none, none, none]) rfl rfl (Nat.le_of_ble_eq_true rfl) rfl ?_
  refine J_aload_n dX10_goThrough_0 rfl ?_
  refine J_getR (r := some 160) dX10_goThrough_1 fX10_17 s158 (fun _ => rfl) (g158_12 hG) ?_
  refine J_iconstN (n := 0) dX10_goThrough_4 ?_
  refine J_ialdN dX10_goThrough_5 s160 (by decide) (by omega) ?_
  refine J_cvI (hW) ?_
  refine J_istore (L' := [some (pR (some 158)), some (pI (nI t)), some (pI (nI w)), some (pI (nI fr)), some (pI (nI st)), some (pI (nI W)), none, none, none, none, none, none, none]) dX10_goThrough_6 (by decide) rfl ?_
  refine J_iconstN (n := 0) dX10_goThrough_8 ?_
  refine J_istore (L' := [some (pR (some 158)), some (pI (nI t)), some (pI (nI w)), some (pI (nI fr)), some (pI (nI st)), some (pI (nI W)), some (pI (nI 0)), none, none, none, none, none, none]) dX10_goThrough_9 (by decide) rfl ?_
  refine J_h (h' := wL h0 173 (fil (fun _ => 0) 0 (h0.2.1 173))) fil_h0L ?_
  refine J_for (L := fun i => [some (pR (some 158)), some (pI (nI t)), some (pI (nI w)), some (pI (nI fr)), some (pI (nI st)), some (pI (nI W)), some (pI (nI i)), none, none, none, none, none, none]) (hf := fun i => wL h0 173 (fil (fun _ => 0) i (h0.2.1 173))) (e := 64) ?_ (fun i hi ih => ?_) 0 (by omega)
  · show J _ _ _ _ _ [some (pR (some 158)), some (pI (nI t)), some (pI (nI w)), some (pI (nI fr)), some (pI (nI st)), some (pI (nI W)), some (pI (nI 64)), none, none, none, none, none, none] _ _ (wL h0 173 (fil (fun _ => 0) 64 (h0.2.1 173)))
    refine J_iload dX10_goThrough_11 rfl ?_
    refine J_bipush (x := nI 64) dX10_goThrough_13 (by decide) ?_
    refine J_icmp_geN dX10_goThrough_15 (by decide) (by decide) (fun c0 => ?_) (fun c0 => absurd c0 (by decide))
    refine J_iconstN (n := 0) dX10_goThrough_32 ?_
    refine J_istore (L' := [some (pR (some 158)), some (pI (nI t)), some (pI (nI w)), some (pI (nI fr)), some (pI (nI st)), some (pI (nI W)), some (pI (nI 0)), none, none, none, none, none, none]) dX10_goThrough_33 (by decide) rfl ?_
    have a1 : ∀ j, j < 64 → (wL h0 173 (fil (fun _ => 0) 64 (h0.2.1 173))).2.1 173 j = 0 := fun j hj => by rw [rWL_s, fil_in hj]
    have a2 : FG h0 (wL h0 173 (fil (fun _ => 0) 64 (h0.2.1 173))) := FG.w (by omega)
    generalize wL h0 173 (fil (fun _ => 0) 64 (h0.2.1 173)) = gA at a1 a2 ⊢
    have hG := a2.g hG0
    refine J_h (h' := wL gA 175 (fil (fun _ => 0) 0 (gA.2.1 175))) fil_h0L ?_
    refine J_for (L := fun i => [some (pR (some 158)), some (pI (nI t)), some (pI (nI w)), some (pI (nI fr)), some (pI (nI st)), some (pI (nI W)), some (pI (nI i)), none, none, none, none, none, none]) (hf := fun i => wL gA 175 (fil (fun _ => 0) i (gA.2.1 175))) (e := 5) ?_ (fun i hi ih => ?_) 0 (by omega)
    · show J _ _ _ _ _ [some (pR (some 158)), some (pI (nI t)), some (pI (nI w)), some (pI (nI fr)), some (pI (nI st)), some (pI (nI W)), some (pI (nI 5)), none, none, none, none, none, none] _ _ (wL gA 175 (fil (fun _ => 0) 5 (gA.2.1 175)))
      refine J_iload dX10_goThrough_35 rfl ?_
      refine J_iconstN (n := 5) dX10_goThrough_37 ?_
      refine J_icmp_geN dX10_goThrough_38 (by decide) (by decide) (fun c0 => ?_) (fun c0 => absurd c0 (by decide))
      refine J_aload_n dX10_goThrough_55 rfl ?_
      refine J_getR (r := some 173) dX10_goThrough_56 fX10_59 s158 (fun _ => rfl) ((xRL).trans (g158_32 hG)) ?_
      refine J_iload dX10_goThrough_59 rfl ?_
      refine J_lconst (x := 1) dX10_goThrough_61 rfl ?_
      refine J_lastN dX10_goThrough_62 s173 (by decide) (by omega) ?_
      refine J_aload_n dX10_goThrough_63 rfl ?_
      refine J_lconst (x := 0) dX10_goThrough_64 rfl ?_
      refine J_putL dX10_goThrough_65 fX10_283 s158 rfl rfl ?_
      refine J_iload_n dX10_goThrough_68 rfl ?_
      refine J_istore (L' := [some (pR (some 158)), some (pI (nI t)), some (pI (nI w)), some (pI (nI fr)), some (pI (nI st)), some (pI (nI W)), some (pI (nI fr)), none, none, none, none, none, none]) dX10_goThrough_69 (by decide) rfl ?_
      refine J_L (L' := [some (pR (some 158)), some (pI (nI t)), some (pI (nI w)), some (pI (nI fr)), some (pI (nI st)), some (pI (nI W)), some (pI (nI (fr + 0))), none, none, none, none, none, none]) rfl ?_
      refine J_forI (α := Unit) (L := fun i1 aa1 => [some (pR (some 158)), some (pI (nI t)), some (pI (nI w)), some (pI (nI fr)), some (pI (nI st)), some (pI (nI W)), some (pI (nI (fr + i1))), none, none, none, none, none, none]) (fun i1 aa1 h1 => (∀ j, j < 64 → h1.2.1 173 j = lN (DW rk rl so u sf S M fr st i1 j)) ∧ (h1.2.1 175 0 = MW (fun s n => gvN rk rl s n (u 4)) rk rl so u sf S M fr st W i1 ∧ h1.2.1 175 1 = MW (fun s n => lkN s n (u 4)) rk rl so u sf S M fr st W i1 ∧ h1.2.1 175 2 = MW (fun s n => msN rk rl s n (u 4)) rk rl so u sf S M fr st W i1 ∧ h1.2.1 175 3 = MW (fun s n => slN so (rsN rk rl s n (u 4))) rk rl so u sf S M fr st W i1) ∧ h1.2.1 175 4 = 0 ∧ h1.2.1 158 38 = CW rk rl so u sf S M fr st W i1 ∧ FG h0 h1) (e := W - fr) (fun aa1 h1 hI1 => ?_) (fun i1 aa1 h1 hi1 hI1 ih1 => ?_) 0 (()) _ (by omega) (⟨fun j hj => by rw [rL_c (by decide)]; rcases Nat.decEq j st with q | q; rotate_left; (subst q; rw [rL_s]; simp [DW]; rfl); (rw [rL_k q, rWL_c (by decide), a1 j hj]; simp [DW, q, lN_0]), ⟨by rw [rL_c (by decide), rL_c (by decide), rWL_s, fil_in (by decide)]; rfl, by rw [rL_c (by decide), rL_c (by decide), rWL_s, fil_in (by decide)]; rfl, by rw [rL_c (by decide), rL_c (by decide), rWL_s, fil_in (by decide)]; rfl, by rw [rL_c (by decide), rL_c (by decide), rWL_s, fil_in (by decide)]; rfl⟩, by rw [rL_c (by decide), rL_c (by decide), rWL_s, fil_in (by decide)], rL_s, a2.tr ((FG.w (by omega)).tr ((FG.w (by omega)).tr FG.cm))⟩)
      · show J _ _ _ _ _ [some (pR (some 158)), some (pI (nI t)), some (pI (nI w)), some (pI (nI fr)), some (pI (nI st)), some (pI (nI W)), some (pI (nI (fr + (W - fr)))), none, none, none, none, none, none] _ _ h1
        obtain ⟨n1, ⟨d0, d1, d2, d3⟩, n2, n3, n4⟩ := hI1
        have hG := n4.g hG0
        refine J_iload dX10_goThrough_71 rfl ?_
        refine J_iload dX10_goThrough_73 rfl ?_
        refine J_icmp_geN dX10_goThrough_75 (by omega) (by omega) (fun c1 => ?_) (fun c1 => ?_)
        · refine J_iconstN (n := 0) dX10_goThrough_345 ?_
          refine J_istore (L' := [some (pR (some 158)), some (pI (nI t)), some (pI (nI w)), some (pI (nI fr)), some (pI (nI st)), some (pI (nI W)), some (pI (nI 0)), none, none, none, none, none, none]) dX10_goThrough_346 (by decide) rfl ?_
          refine J_h (h' := sL h1 175 4 (sL64 (fun s => h1.2.1 173 s * lN s) 0)) (sL_id n2).symm ?_
          refine J_for (L := fun i => [some (pR (some 158)), some (pI (nI t)), some (pI (nI w)), some (pI (nI fr)), some (pI (nI st)), some (pI (nI W)), some (pI (nI i)), none, none, none, none, none, none]) (hf := fun i => sL h1 175 4 (sL64 (fun s => h1.2.1 173 s * lN s) i)) (e := 64) ?_ (fun i hi ih => ?_) 0 (by omega)
          · show J _ _ _ _ _ [some (pR (some 158)), some (pI (nI t)), some (pI (nI w)), some (pI (nI fr)), some (pI (nI st)), some (pI (nI W)), some (pI (nI 64)), none, none, none, none, none, none] _ _ (sL h1 175 4 (sL64 (fun s => h1.2.1 173 s * lN s) 64))
            refine J_iload dX10_goThrough_348 rfl ?_
            refine J_bipush (x := nI 64) dX10_goThrough_350 (by decide) ?_
            refine J_icmp_geN dX10_goThrough_352 (by decide) (by decide) (fun c0 => ?_) (fun c0 => absurd c0 (by decide))
            exact J_retV dX10_goThrough_381 rfl ⟨fun j hj => by rw [rL_c (by decide)]; exact n1 j hj, ⟨(rL_k (by decide)).trans d0, (rL_k (by decide)).trans d1, (rL_k (by decide)).trans d2, (rL_k (by decide)).trans d3⟩, rL_s.trans (sL64_congr 64 (fun i hi => by rw [n1 i hi])), (rL_c (by decide)).trans n3, n4.tr (FG.w (by omega))⟩
          · show J _ _ _ _ _ [some (pR (some 158)), some (pI (nI t)), some (pI (nI w)), some (pI (nI fr)), some (pI (nI st)), some (pI (nI W)), some (pI (nI i)), none, none, none, none, none, none] _ _ (sL h1 175 4 (sL64 (fun s => h1.2.1 173 s * lN s) i))
            refine J_iload dX10_goThrough_348 rfl ?_
            refine J_bipush (x := nI 64) dX10_goThrough_350 (by decide) ?_
            refine J_icmp_geN dX10_goThrough_352 (by omega) (by omega) (fun c2 => ?_) (fun c2 => ?_)
            · exact (show False by omega).elim
            · refine J_aload_n dX10_goThrough_355 rfl ?_
              refine J_getR (r := some 175) dX10_goThrough_356 fX10_65 s158 (fun _ => rfl) ((xRL).trans (g158_34 hG)) ?_
              refine J_iconstN (n := 4) dX10_goThrough_359 ?_
              refine J_dup2 dX10_goThrough_360 rfl rfl ?_
              refine J_laldN dX10_goThrough_361 s175 (by decide) (by omega) ?_
              refine J_cvL (rL_s) ?_
              refine J_aload_n dX10_goThrough_362 rfl ?_
              refine J_getR (r := some 173) dX10_goThrough_363 fX10_59 s158 (fun _ => rfl) ((xRL).trans (g158_32 hG)) ?_
              refine J_iload dX10_goThrough_366 rfl ?_
              refine J_laldN dX10_goThrough_368 s173 (by decide) (by omega) ?_
              refine J_cvL (y := h1.2.1 173 i) ((rL_c (by decide))) ?_
              refine J_iload dX10_goThrough_369 rfl ?_
              refine J_i2lN dX10_goThrough_371 (by omega) ?_
              refine J_lmul dX10_goThrough_372 ?_
              refine J_ladd dX10_goThrough_373 ?_
              refine J_lastN dX10_goThrough_374 s175 (by decide) (by omega) ?_
              refine J_iincN (n := 1) (L' := [some (pR (some 158)), some (pI (nI t)), some (pI (nI w)), some (pI (nI fr)), some (pI (nI st)), some (pI (nI W)), some (pI (nI (i + 1))), none, none, none, none, none, none]) dX10_goThrough_375 rfl (by decide) rfl ?_
              refine J_goto dX10_goThrough_378 ?_
              refine J_h (h' := sL h1 175 4 (sL64 (fun s => h1.2.1 173 s * lN s) (i + 1))) sL_sL ?_
              exact ih
        · exact (show False by omega).elim
      · show J _ _ _ _ _ [some (pR (some 158)), some (pI (nI t)), some (pI (nI w)), some (pI (nI fr)), some (pI (nI st)), some (pI (nI W)), some (pI (nI (fr + i1))), none, none, none, none, none, none] _ _ h1
        obtain ⟨n1, ⟨d0, d1, d2, d3⟩, n2, n3, n4⟩ := hI1
        have hG := n4.g hG0
        have hi4 : i1 ≤ 4 := by omega
        have K96 : ∀ g : PH, ((∀ j, j < 64 → g.2.1 173 j = lN (dS sf S M (fr + i1) (DW rk rl so u sf S M fr st i1) j)) ∧ (g.2.1 175 0 = MW (fun s n => gvN rk rl s n (u 4)) rk rl so u sf S M fr st W i1 ∧ g.2.1 175 1 = MW (fun s n => lkN s n (u 4)) rk rl so u sf S M fr st W i1 ∧ g.2.1 175 2 = MW (fun s n => msN rk rl s n (u 4)) rk rl so u sf S M fr st W i1 ∧ g.2.1 175 3 = MW (fun s n => slN so (rsN rk rl s n (u 4))) rk rl so u sf S M fr st W i1) ∧ g.2.1 175 4 = 0 ∧ g.2.1 158 38 = CW rk rl so u sf S M fr st W (i1 + 1) ∧ FG h0 g) → J mX10_goThrough (RF mX10_goThrough) SHF (ZV (fun h' => (∀ j, j < 64 → h'.2.1 173 j = lN (DW rk rl so u sf S M fr st (W - fr) j)) ∧ (h'.2.1 175 0 = MW (fun s n => gvN rk rl s n (u 4)) rk rl so u sf S M fr st W (W - fr) ∧ h'.2.1 175 1 = MW (fun s n => lkN s n (u 4)) rk rl so u sf S M fr st W (W - fr) ∧ h'.2.1 175 2 = MW (fun s n => msN rk rl s n (u 4)) rk rl so u sf S M fr st W (W - fr) ∧ h'.2.1 175 3 = MW (fun s n => slN so (rsN rk rl s n (u 4))) rk rl so u sf S M fr st W (W - fr)) ∧ h'.2.1 175 4 = sL64 (fun s => lN (DW rk rl so u sf S M fr st (W - fr) s) * lN s) 64 ∧ h'.2.1 158 38 = CW rk rl so u sf S M fr st W (W - fr) ∧ FG h0 h')) 96 [some (pR (some 158)), some (pI (nI t)), some (pI (nI w)), some (pI (nI fr)), some (pI (nI st)), some (pI (nI W)), some (pI (nI (fr + i1))), none, none, none, none, none, none] [] SHF g := by
          intro g ⟨x1, ⟨y0, y1, y2, y3⟩, x2, x3, x4⟩
          have hG := x4.g hG0
          have bdd := dS_bd (rk := rk) (rl := rl) (so := so) (sf := sf) (S := S) (M := M) (fr := fr) (st := st) hu hi4
          obtain ⟨dd, hdd⟩ : ∃ dd, dd = dS sf S M (fr + i1) (DW rk rl so u sf S M fr st i1) := ⟨_, rfl⟩
          rw [← hdd] at x1 bdd
          refine J_aload_n dX10_goThrough_96 rfl ?_
          refine J_iload dX10_goThrough_97 rfl ?_
          refine J_iload dX10_goThrough_99 rfl ?_
          refine J_isubN dX10_goThrough_101 (by omega) ?_
          refine J_iconstN (n := 1) dX10_goThrough_102 ?_
          refine J_isubN dX10_goThrough_103 (by omega) ?_
          refine J_cVL (ci := 10) (c := 158) (as := [pI (nI (W - (fr + i1) - 1))]) (st := []) dX10_goThrough_104 lX10_290 okX10_tens vX10_tens s158 (by decide) rfl rfl rfl (Nat.le_of_ble_eq_true rfl) ⟨Nat.le_of_ble_eq_true rfl, Nat.le_of_ble_eq_true rfl⟩ CR.f (c_X10_tens (by omega)) (fun vq3 gq3 eq3 => ?_)
          obtain ⟨rfl, fq3⟩ := eq3
          rw [fq3]
          refine J_lstore (L' := [some (pR (some 158)), some (pI (nI t)), some (pI (nI w)), some (pI (nI fr)), some (pI (nI st)), some (pI (nI W)), some (pI (nI (fr + i1))), some (pL (tenL (W - (fr + i1) - 1))), none, none, none, none, none]) dX10_goThrough_107 (by decide) rfl ?_
          refine J_iconstN (n := 0) dX10_goThrough_109 ?_
          refine J_istore (L' := [some (pR (some 158)), some (pI (nI t)), some (pI (nI w)), some (pI (nI fr)), some (pI (nI st)), some (pI (nI W)), some (pI (nI (fr + i1))), some (pL (tenL (W - (fr + i1) - 1))), none, some (pI (nI 0)), none, none, none]) dX10_goThrough_110 (by decide) rfl ?_
          refine J_h (h' := wL g 174 (fil (fun _ => 0) 0 (g.2.1 174))) fil_h0L ?_
          refine J_for (L := fun i => [some (pR (some 158)), some (pI (nI t)), some (pI (nI w)), some (pI (nI fr)), some (pI (nI st)), some (pI (nI W)), some (pI (nI (fr + i1))), some (pL (tenL (W - (fr + i1) - 1))), none, some (pI (nI i)), none, none, none]) (hf := fun i => wL g 174 (fil (fun _ => 0) i (g.2.1 174))) (e := 64) ?_ (fun i hi ih => ?_) 0 (by omega)
          · show J _ _ _ _ _ [some (pR (some 158)), some (pI (nI t)), some (pI (nI w)), some (pI (nI fr)), some (pI (nI st)), some (pI (nI W)), some (pI (nI (fr + i1))), some (pL (tenL (W - (fr + i1) - 1))), none, some (pI (nI 64)), none, none, none] _ _ (wL g 174 (fil (fun _ => 0) 64 (g.2.1 174)))
            refine J_iload dX10_goThrough_112 rfl ?_
            refine J_bipush (x := nI 64) dX10_goThrough_114 (by decide) ?_
            refine J_icmp_geN dX10_goThrough_116 (by decide) (by decide) (fun c0 => ?_) (fun c0 => absurd c0 (by decide))
            refine J_iconstN (n := 0) dX10_goThrough_133 ?_
            refine J_istore (L' := [some (pR (some 158)), some (pI (nI t)), some (pI (nI w)), some (pI (nI fr)), some (pI (nI st)), some (pI (nI W)), some (pI (nI (fr + i1))), some (pL (tenL (W - (fr + i1) - 1))), none, some (pI (nI 0)), none, none, none]) dX10_goThrough_134 (by decide) rfl ?_
            refine J_forI (α := Unit) (L := fun i2 aa2 => [some (pR (some 158)), some (pI (nI t)), some (pI (nI w)), some (pI (nI fr)), some (pI (nI st)), some (pI (nI W)), some (pI (nI (fr + i1))), some (pL (tenL (W - (fr + i1) - 1))), none, some (pI (nI i2)), none, none, none]) (fun i2 aa2 h2 => (∀ j, j < 64 → h2.2.1 174 j = lN (thO rk rl so u dd i2 j)) ∧ (h2.2.1 175 0 = mnO (fun s n => gvN rk rl s n (u 4)) u dd (tenL (W - (fr + i1) - 1)) (MW (fun s n => gvN rk rl s n (u 4)) rk rl so u sf S M fr st W i1) i2 ∧ h2.2.1 175 1 = mnO (fun s n => lkN s n (u 4)) u dd (tenL (W - (fr + i1) - 1)) (MW (fun s n => lkN s n (u 4)) rk rl so u sf S M fr st W i1) i2 ∧ h2.2.1 175 2 = mnO (fun s n => msN rk rl s n (u 4)) u dd (tenL (W - (fr + i1) - 1)) (MW (fun s n => msN rk rl s n (u 4)) rk rl so u sf S M fr st W i1) i2 ∧ h2.2.1 175 3 = mnO (fun s n => slN so (rsN rk rl s n (u 4))) u dd (tenL (W - (fr + i1) - 1)) (MW (fun s n => slN so (rsN rk rl s n (u 4))) rk rl so u sf S M fr st W i1) i2) ∧ h2.2.1 175 4 = 0 ∧ h2.2.1 158 38 = CW rk rl so u sf S M fr st W (i1 + 1) ∧ (∀ j, j < 64 → h2.2.1 173 j = lN (dd j)) ∧ FG h0 h2) (e := 64) (fun aa2 h2 hI2 => ?_) (fun i2 aa2 h2 hi2 hI2 ih2 => ?_) 0 () _ (by omega) ⟨fun j hj => by rw [rWL_s, fil_in hj]; rfl, ⟨by rw [rWL_c (by decide)]; exact y0, by rw [rWL_c (by decide)]; exact y1, by rw [rWL_c (by decide)]; exact y2, by rw [rWL_c (by decide)]; exact y3⟩, by rw [rWL_c (by decide)]; exact x2, by rw [rWL_c (by decide)]; exact x3, fun j hj => by rw [rWL_c (by decide)]; exact x1 j hj, x4.tr (FG.w (by omega))⟩
            · show J _ _ _ _ _ [some (pR (some 158)), some (pI (nI t)), some (pI (nI w)), some (pI (nI fr)), some (pI (nI st)), some (pI (nI W)), some (pI (nI (fr + i1))), some (pL (tenL (W - (fr + i1) - 1))), none, some (pI (nI 64)), none, none, none] _ _ h2
              obtain ⟨e1, ⟨f0, f1, f2, f3⟩, e2, e3, e4, e5⟩ := hI2
              have hG := e5.g hG0
              refine J_iload dX10_goThrough_136 rfl ?_
              refine J_bipush (x := nI 64) dX10_goThrough_138 (by decide) ?_
              refine J_icmp_geN dX10_goThrough_140 (by decide) (by decide) (fun c0 => ?_) (fun c0 => absurd c0 (by decide))
              refine J_iconstN (n := 0) dX10_goThrough_309 ?_
              refine J_istore (L' := [some (pR (some 158)), some (pI (nI t)), some (pI (nI w)), some (pI (nI fr)), some (pI (nI st)), some (pI (nI W)), some (pI (nI (fr + i1))), some (pL (tenL (W - (fr + i1) - 1))), none, some (pI (nI 0)), none, none, none]) dX10_goThrough_310 (by decide) rfl ?_
              refine J_h (h' := wL h2 173 (fil (h2.2.1 174) 0 (h2.2.1 173))) fil_h0L ?_
              refine J_for (L := fun i => [some (pR (some 158)), some (pI (nI t)), some (pI (nI w)), some (pI (nI fr)), some (pI (nI st)), some (pI (nI W)), some (pI (nI (fr + i1))), some (pL (tenL (W - (fr + i1) - 1))), none, some (pI (nI i)), none, none, none]) (hf := fun i => wL h2 173 (fil (h2.2.1 174) i (h2.2.1 173))) (e := 64) ?_ (fun i hi ih => ?_) 0 (by omega)
              · show J _ _ _ _ _ [some (pR (some 158)), some (pI (nI t)), some (pI (nI w)), some (pI (nI fr)), some (pI (nI st)), some (pI (nI W)), some (pI (nI (fr + i1))), some (pL (tenL (W - (fr + i1) - 1))), none, some (pI (nI 64)), none, none, none] _ _ (wL h2 173 (fil (h2.2.1 174) 64 (h2.2.1 173)))
                refine J_iload dX10_goThrough_312 rfl ?_
                refine J_bipush (x := nI 64) dX10_goThrough_314 (by decide) ?_
                refine J_icmp_geN dX10_goThrough_316 (by decide) (by decide) (fun c0 => ?_) (fun c0 => absurd c0 (by decide))
                refine J_iincN (n := 1) (L' := [some (pR (some 158)), some (pI (nI t)), some (pI (nI w)), some (pI (nI fr)), some (pI (nI st)), some (pI (nI W)), some (pI (nI (fr + i1 + 1))), some (pL (tenL (W - (fr + i1) - 1))), none, some (pI (nI 64)), none, none, none]) dX10_goThrough_339 rfl (by decide) rfl ?_
                refine J_goto dX10_goThrough_342 ?_
                refine J_drop (L' := [some (pR (some 158)), some (pI (nI t)), some (pI (nI w)), some (pI (nI fr)), some (pI (nI st)), some (pI (nI W)), some (pI (nI (fr + i1 + 1))), none, none, some (pI (nI 64)), none, none, none]) 7 rfl ?_
                refine J_drop (L' := [some (pR (some 158)), some (pI (nI t)), some (pI (nI w)), some (pI (nI fr)), some (pI (nI st)), some (pI (nI W)), some (pI (nI (fr + i1 + 1))), none, none, none, none, none, none]) 9 rfl ?_
                refine ih1 () _ ⟨fun j hj => ?_, ⟨(congrFun (rWL_c (by decide)) 0).trans (f0.trans (by rw [MW, ← hdd])), (congrFun (rWL_c (by decide)) 1).trans (f1.trans (by rw [MW, ← hdd])), (congrFun (rWL_c (by decide)) 2).trans (f2.trans (by rw [MW, ← hdd])), (congrFun (rWL_c (by decide)) 3).trans (f3.trans (by rw [MW, ← hdd]))⟩, (congrFun (rWL_c (by decide)) 4).trans e2, (congrFun (rWL_c (by decide)) 38).trans e3, e5.tr (FG.w (by omega))⟩
                rw [rWL_s, fil_in hj, e1 j hj, DW, ← hdd]
              · show J _ _ _ _ _ [some (pR (some 158)), some (pI (nI t)), some (pI (nI w)), some (pI (nI fr)), some (pI (nI st)), some (pI (nI W)), some (pI (nI (fr + i1))), some (pL (tenL (W - (fr + i1) - 1))), none, some (pI (nI i)), none, none, none] _ _ (wL h2 173 (fil (h2.2.1 174) i (h2.2.1 173)))
                refine J_iload dX10_goThrough_312 rfl ?_
                refine J_bipush (x := nI 64) dX10_goThrough_314 (by decide) ?_
                refine J_icmp_geN dX10_goThrough_316 (by omega) (by omega) (fun c4 => ?_) (fun c4 => ?_)
                · exact (show False by omega).elim
                · refine J_aload_n dX10_goThrough_319 rfl ?_
                  refine J_getR (r := some 173) dX10_goThrough_320 fX10_59 s158 (fun _ => rfl) ((xRL).trans (g158_32 hG)) ?_
                  refine J_iload dX10_goThrough_323 rfl ?_
                  refine J_aload_n dX10_goThrough_325 rfl ?_
                  refine J_getR (r := some 174) dX10_goThrough_326 fX10_62 s158 (fun _ => rfl) ((xRL).trans (g158_33 hG)) ?_
                  refine J_iload dX10_goThrough_329 rfl ?_
                  refine J_laldN dX10_goThrough_331 s174 (by decide) (by omega) ?_
                  refine J_cvL (y := h2.2.1 174 i) ((congrFun (rWL_c (by decide)) i)) ?_
                  refine J_lastN dX10_goThrough_332 s173 (by decide) (by omega) ?_
                  refine J_iincN (n := 1) (L' := [some (pR (some 158)), some (pI (nI t)), some (pI (nI w)), some (pI (nI fr)), some (pI (nI st)), some (pI (nI W)), some (pI (nI (fr + i1))), some (pL (tenL (W - (fr + i1) - 1))), none, some (pI (nI (i + 1))), none, none, none]) dX10_goThrough_333 rfl (by decide) rfl ?_
                  refine J_goto dX10_goThrough_336 ?_
                  refine J_h (h' := wL h2 173 (fil (h2.2.1 174) (i + 1) (h2.2.1 173))) (fil_stL rfl) ?_
                  exact ih
            · obtain ⟨e1, ⟨f0, f1, f2, f3⟩, e2, e3, e4, e5⟩ := hI2
              have hG := e5.g hG0
              have bi := bdd i2
              rcases Nat.eq_zero_or_pos (dd i2) with e0 | e0
              · show J _ _ _ _ _ [some (pR (some 158)), some (pI (nI t)), some (pI (nI w)), some (pI (nI fr)), some (pI (nI st)), some (pI (nI W)), some (pI (nI (fr + i1))), some (pL (tenL (W - (fr + i1) - 1))), none, some (pI (nI i2)), none, none, none] _ _ h2
                refine J_iload dX10_goThrough_136 rfl ?_
                refine J_bipush (x := nI 64) dX10_goThrough_138 (by decide) ?_
                refine J_icmp_geN dX10_goThrough_140 (by omega) (by omega) (fun c5 => ?_) (fun c5 => ?_)
                · exact (show False by omega).elim
                · refine J_iconstN (n := 0) dX10_goThrough_143 ?_
                  refine J_istore (L' := [some (pR (some 158)), some (pI (nI t)), some (pI (nI w)), some (pI (nI fr)), some (pI (nI st)), some (pI (nI W)), some (pI (nI (fr + i1))), some (pL (tenL (W - (fr + i1) - 1))), none, some (pI (nI i2)), some (pI (nI 0)), none, none]) dX10_goThrough_144 (by decide) rfl ?_
                  refine J_iload dX10_goThrough_146 rfl ?_
                  refine J_iconstN (n := 4) dX10_goThrough_148 ?_
                  refine J_icmp_geN dX10_goThrough_149 (by decide) (by decide) (fun c0 => absurd c0 (by decide)) (fun c0 => ?_)
                  refine J_aload_n dX10_goThrough_152 rfl ?_
                  refine J_getR (r := some 173) dX10_goThrough_153 fX10_59 s158 (fun _ => rfl) (g158_32 hG) ?_
                  refine J_iload dX10_goThrough_156 rfl ?_
                  refine J_laldN dX10_goThrough_158 s173 (by decide) (by omega) ?_
                  refine J_cvL (((e4 i2 hi2).trans (congrArg lN e0))) ?_
                  refine J_lconst (x := 0) dX10_goThrough_159 rfl ?_
                  refine J_lcmp dX10_goThrough_160 ?_
                  refine J_lif_le dX10_goThrough_161 (fun c6 => ?_) (fun c6 => ?_)
                  · refine J_iincN (n := 1) (L' := [some (pR (some 158)), some (pI (nI t)), some (pI (nI w)), some (pI (nI fr)), some (pI (nI st)), some (pI (nI W)), some (pI (nI (fr + i1))), some (pL (tenL (W - (fr + i1) - 1))), none, some (pI (nI (i2 + 1))), some (pI (nI 0)), none, none]) dX10_goThrough_303 rfl (by decide) rfl ?_
                    refine J_goto dX10_goThrough_306 ?_
                    refine J_drop (L' := [some (pR (some 158)), some (pI (nI t)), some (pI (nI w)), some (pI (nI fr)), some (pI (nI st)), some (pI (nI W)), some (pI (nI (fr + i1))), some (pL (tenL (W - (fr + i1) - 1))), none, some (pI (nI (i2 + 1))), none, none, none]) 10 rfl ?_
                    exact ih2 () _ ⟨fun j hj => by rw [e1 j hj]; show _ = lN (thI rk rl so u dd i2 _ 4 j); rw [thI_0 e0], ⟨by rw [f0]; show _ = mnI _ _ _ _ _ _ 4; rw [mnI_0 e0], by rw [f1]; show _ = mnI _ _ _ _ _ _ 4; rw [mnI_0 e0], by rw [f2]; show _ = mnI _ _ _ _ _ _ 4; rw [mnI_0 e0], by rw [f3]; show _ = mnI _ _ _ _ _ _ 4; rw [mnI_0 e0]⟩, e2, e3, e4, e5⟩
                  · exact absurd (Int64.le_refl 0) c6
              · show J _ _ _ _ _ [some (pR (some 158)), some (pI (nI t)), some (pI (nI w)), some (pI (nI fr)), some (pI (nI st)), some (pI (nI W)), some (pI (nI (fr + i1))), some (pL (tenL (W - (fr + i1) - 1))), none, some (pI (nI i2)), none, none, none] _ _ h2
                refine J_iload dX10_goThrough_136 rfl ?_
                refine J_bipush (x := nI 64) dX10_goThrough_138 (by decide) ?_
                refine J_icmp_geN dX10_goThrough_140 (by omega) (by omega) (fun c7 => ?_) (fun c7 => ?_)
                · exact (show False by omega).elim
                · refine J_iconstN (n := 0) dX10_goThrough_143 ?_
                  refine J_istore (L' := [some (pR (some 158)), some (pI (nI t)), some (pI (nI w)), some (pI (nI fr)), some (pI (nI st)), some (pI (nI W)), some (pI (nI (fr + i1))), some (pL (tenL (W - (fr + i1) - 1))), none, some (pI (nI i2)), some (pI (nI 0)), none, none]) dX10_goThrough_144 (by decide) rfl ?_
                  refine J_forI (α := Unit) (L := fun i3 aa3 => [some (pR (some 158)), some (pI (nI t)), some (pI (nI w)), some (pI (nI fr)), some (pI (nI st)), some (pI (nI W)), some (pI (nI (fr + i1))), some (pL (tenL (W - (fr + i1) - 1))), none, some (pI (nI i2)), some (pI (nI i3)), none, none]) (fun i3 aa3 h3 => (∀ j, j < 64 → h3.2.1 174 j = lN (thI rk rl so u dd i2 (thO rk rl so u dd i2) i3 j)) ∧ (h3.2.1 175 0 = mnI (fun s n => gvN rk rl s n (u 4)) u dd (tenL (W - (fr + i1) - 1)) i2 (mnO (fun s n => gvN rk rl s n (u 4)) u dd (tenL (W - (fr + i1) - 1)) (MW (fun s n => gvN rk rl s n (u 4)) rk rl so u sf S M fr st W i1) i2) i3 ∧ h3.2.1 175 1 = mnI (fun s n => lkN s n (u 4)) u dd (tenL (W - (fr + i1) - 1)) i2 (mnO (fun s n => lkN s n (u 4)) u dd (tenL (W - (fr + i1) - 1)) (MW (fun s n => lkN s n (u 4)) rk rl so u sf S M fr st W i1) i2) i3 ∧ h3.2.1 175 2 = mnI (fun s n => msN rk rl s n (u 4)) u dd (tenL (W - (fr + i1) - 1)) i2 (mnO (fun s n => msN rk rl s n (u 4)) u dd (tenL (W - (fr + i1) - 1)) (MW (fun s n => msN rk rl s n (u 4)) rk rl so u sf S M fr st W i1) i2) i3 ∧ h3.2.1 175 3 = mnI (fun s n => slN so (rsN rk rl s n (u 4))) u dd (tenL (W - (fr + i1) - 1)) i2 (mnO (fun s n => slN so (rsN rk rl s n (u 4))) u dd (tenL (W - (fr + i1) - 1)) (MW (fun s n => slN so (rsN rk rl s n (u 4))) rk rl so u sf S M fr st W i1) i2) i3) ∧ h3.2.1 175 4 = 0 ∧ h3.2.1 158 38 = CW rk rl so u sf S M fr st W (i1 + 1) ∧ (∀ j, j < 64 → h3.2.1 173 j = lN (dd j)) ∧ FG h0 h3) (e := 4) (fun aa3 h3 hI3 => ?_) (fun i3 aa3 h3 hi3 hI3 ih3 => ?_) 0 () _ (by omega) ⟨e1, ⟨f0, f1, f2, f3⟩, e2, e3, e4, e5⟩
                  · show J _ _ _ _ _ [some (pR (some 158)), some (pI (nI t)), some (pI (nI w)), some (pI (nI fr)), some (pI (nI st)), some (pI (nI W)), some (pI (nI (fr + i1))), some (pL (tenL (W - (fr + i1) - 1))), none, some (pI (nI i2)), some (pI (nI 4)), none, none] _ _ h3
                    refine J_iload dX10_goThrough_146 rfl ?_
                    refine J_iconstN (n := 4) dX10_goThrough_148 ?_
                    refine J_icmp_geN dX10_goThrough_149 (by decide) (by decide) (fun c0 => ?_) (fun c0 => absurd c0 (by decide))
                    refine J_iincN (n := 1) (L' := [some (pR (some 158)), some (pI (nI t)), some (pI (nI w)), some (pI (nI fr)), some (pI (nI st)), some (pI (nI W)), some (pI (nI (fr + i1))), some (pL (tenL (W - (fr + i1) - 1))), none, some (pI (nI (i2 + 1))), some (pI (nI 4)), none, none]) dX10_goThrough_303 rfl (by decide) rfl ?_
                    refine J_goto dX10_goThrough_306 ?_
                    refine J_drop (L' := [some (pR (some 158)), some (pI (nI t)), some (pI (nI w)), some (pI (nI fr)), some (pI (nI st)), some (pI (nI W)), some (pI (nI (fr + i1))), some (pL (tenL (W - (fr + i1) - 1))), none, some (pI (nI (i2 + 1))), none, none, none]) 10 rfl ?_
                    exact ih2 () _ hI3
                  · show J _ _ _ _ _ [some (pR (some 158)), some (pI (nI t)), some (pI (nI w)), some (pI (nI fr)), some (pI (nI st)), some (pI (nI W)), some (pI (nI (fr + i1))), some (pL (tenL (W - (fr + i1) - 1))), none, some (pI (nI i2)), some (pI (nI i3)), none, none] _ _ h3
                    obtain ⟨e1, ⟨f0, f1, f2, f3⟩, e2, e3, e4, e5⟩ := hI3
                    have hG := e5.g hG0
                    have hT := hT0.fg e5
                    have hU := hU0.fg e5
                    have ui := hu i3 (by omega)
                    have nb := nx_le rk rl so (u 4) i2 i3
                    have bp : dd i2 * u i3 < 2 ^ 63 := Nat.lt_of_le_of_lt (Nat.mul_le_mul (Nat.le_of_lt bi) ui) (by decide)
                    refine J_iload dX10_goThrough_146 rfl ?_
                    refine J_iconstN (n := 4) dX10_goThrough_148 ?_
                    refine J_icmp_geN dX10_goThrough_149 (by omega) (by omega) (fun c8 => ?_) (fun c8 => ?_)
                    · exact (show False by omega).elim
                    · refine J_aload_n dX10_goThrough_152 rfl ?_
                      refine J_getR (r := some 173) dX10_goThrough_153 fX10_59 s158 (fun _ => rfl) (g158_32 hG) ?_
                      refine J_iload dX10_goThrough_156 rfl ?_
                      refine J_laldN dX10_goThrough_158 s173 (by decide) (by omega) ?_
                      refine J_cvL ((e4 i2 hi2)) ?_
                      refine J_lconst (x := 0) dX10_goThrough_159 rfl ?_
                      refine J_lcmp dX10_goThrough_160 ?_
                      refine J_lif_le dX10_goThrough_161 (fun c9 => ?_) (fun c9 => ?_)
                      · exact absurd c9 (lN_nle e0 (by omega))
                      · refine J_aload_n dX10_goThrough_164 rfl ?_
                        refine J_getR (r := some 173) dX10_goThrough_165 fX10_59 s158 (fun _ => rfl) (g158_32 hG) ?_
                        refine J_iload dX10_goThrough_168 rfl ?_
                        refine J_laldN dX10_goThrough_170 s173 (by decide) (by omega) ?_
                        refine J_cvL ((e4 i2 hi2)) ?_
                        refine J_aload_n dX10_goThrough_171 rfl ?_
                        refine J_iload_n dX10_goThrough_172 rfl ?_
                        refine J_iload_n dX10_goThrough_173 rfl ?_
                        refine J_iload dX10_goThrough_174 rfl ?_
                        refine J_cVI (ci := 10) (c := 158) (as := [pI (nI t), pI (nI w), pI (nI i3)]) (st := [pL (lN (dd i2))]) dX10_goThrough_176 lX10_249 okX10_chance vX10_chance s158 (by decide) rfl rfl rfl (Nat.le_of_ble_eq_true rfl) ⟨Nat.le_of_ble_eq_true rfl, Nat.le_of_ble_eq_true rfl⟩ CR.f (c_X10_chance hG ht hw (by omega) (hU i3 (by omega)).1) (fun vq10 gq10 eq10 => ?_)
                        obtain ⟨rfl, fq10⟩ := eq10
                        rw [fq10]
                        refine J_i2lN dX10_goThrough_179 (by omega) ?_
                        refine J_lmul dX10_goThrough_180 ?_
                        refine J_cvL (y := lN (dd i2 * u i3)) (lN_mul _ _) ?_
                        refine J_lstore (L' := [some (pR (some 158)), some (pI (nI t)), some (pI (nI w)), some (pI (nI fr)), some (pI (nI st)), some (pI (nI W)), some (pI (nI (fr + i1))), some (pL (tenL (W - (fr + i1) - 1))), none, some (pI (nI i2)), some (pI (nI i3)), some (pL (lN (dd i2 * u i3))), none]) dX10_goThrough_181 (by decide) rfl ?_
                        refine J_lload dX10_goThrough_183 rfl ?_
                        refine J_lconst (x := 0) dX10_goThrough_185 rfl ?_
                        refine J_lcmp dX10_goThrough_186 ?_
                        refine J_lif_ne dX10_goThrough_187 (fun c11 => ?_) (fun c11 => ?_)
                        · refine J_aload_n dX10_goThrough_193 rfl ?_
                          refine J_iload_n dX10_goThrough_194 rfl ?_
                          refine J_iload_n dX10_goThrough_195 rfl ?_
                          refine J_iload dX10_goThrough_196 rfl ?_
                          refine J_iload dX10_goThrough_198 rfl ?_
                          refine J_cVV (ci := 10) (c := 158) (as := [pI (nI t), pI (nI w), pI (nI i2), pI (nI i3)]) (st := []) dX10_goThrough_200 lX10_294 okX10_week vX10_week s158 (by decide) rfl rfl rfl (Nat.le_of_ble_eq_true rfl) ⟨Nat.le_of_ble_eq_true rfl, Nat.le_of_ble_eq_true rfl⟩ CR.f (c_X10_week hG ht hw hT hU (by omega) (by omega)) (fun g7 e7 => ?_)
                          subst e7
                          have r1 := rs_le rk rl i2 i3 (u 4)
                          have r2 := gv_le rk rl i2 i3 (u 4)
                          have r3 := sl_le so (rsN rk rl i2 i3 (u 4))
                          have r4 := ws_le rk rl i2 i3 (u 4)
                          have r5 : lkN i2 i3 (u 4) ≤ i3 := by unfold lkN; omega
                          have r6 : msN rk rl i2 i3 (u 4) ≤ i3 := by unfold msN; omega
                          refine J_aload_n dX10_goThrough_203 rfl ?_
                          refine J_getR (r := some 174) dX10_goThrough_204 fX10_62 s158 (fun _ => rfl) ((xRI).trans ((xRI).trans ((xRI).trans ((xRI).trans ((xRI).trans ((xRI).trans (g158_33 hG))))))) ?_
                          refine J_aload_n dX10_goThrough_207 rfl ?_
                          refine J_getI dX10_goThrough_208 fX10_268 s158 (fun _ => rfl) ?_
                          refine J_cvI (rI_s) ?_
                          refine J_dup2 dX10_goThrough_211 rfl rfl ?_
                          refine J_laldN dX10_goThrough_212 s174 (by decide) (by omega) ?_
                          refine J_cvL ((xLI).trans ((xLI).trans ((xLI).trans ((xLI).trans ((xLI).trans ((xLI).trans ((e1 _ (by omega))))))))) ?_
                          refine J_lload dX10_goThrough_213 rfl ?_
                          refine J_ladd dX10_goThrough_215 ?_
                          refine J_lastN dX10_goThrough_216 s174 (by decide) (by omega) ?_
                          refine J_aload_n dX10_goThrough_217 rfl ?_
                          refine J_getR (r := some 175) dX10_goThrough_218 fX10_65 s158 (fun _ => rfl) ((xRL).trans ((xRI).trans ((xRI).trans ((xRI).trans ((xRI).trans ((xRI).trans ((xRI).trans (g158_34 hG)))))))) ?_
                          refine J_iconstN (n := 0) dX10_goThrough_221 ?_
                          refine J_dup2 dX10_goThrough_222 rfl rfl ?_
                          refine J_laldN dX10_goThrough_223 s175 (by decide) (by omega) ?_
                          refine J_cvL ((rL_c (by decide)).trans ((xLI).trans ((xLI).trans ((xLI).trans ((xLI).trans ((xLI).trans ((xLI).trans (f0)))))))) ?_
                          refine J_lload dX10_goThrough_224 rfl ?_
                          refine J_lload dX10_goThrough_226 rfl ?_
                          refine J_lmul dX10_goThrough_228 ?_
                          refine J_aload_n dX10_goThrough_229 rfl ?_
                          refine J_getI dX10_goThrough_230 fX10_259 s158 (fun _ => rfl) ?_
                          refine J_cvI ((xIL).trans ((rI_k (by decide)).trans ((rI_k (by decide)).trans ((rI_k (by decide)).trans ((rI_k (by decide)).trans ((rI_k (by decide)).trans (rI_s))))))) ?_
                          refine J_i2lN dX10_goThrough_233 (by omega) ?_
                          refine J_lmul dX10_goThrough_234 ?_
                          refine J_ladd dX10_goThrough_235 ?_
                          refine J_lastN dX10_goThrough_236 s175 (by decide) (by omega) ?_
                          refine J_aload_n dX10_goThrough_237 rfl ?_
                          refine J_getR (r := some 175) dX10_goThrough_238 fX10_65 s158 (fun _ => rfl) ((xRL).trans ((xRL).trans ((xRI).trans ((xRI).trans ((xRI).trans ((xRI).trans ((xRI).trans ((xRI).trans (g158_34 hG))))))))) ?_
                          refine J_iconstN (n := 1) dX10_goThrough_241 ?_
                          refine J_dup2 dX10_goThrough_242 rfl rfl ?_
                          refine J_laldN dX10_goThrough_243 s175 (by decide) (by omega) ?_
                          refine J_cvL ((rL_k (by decide)).trans ((rL_c (by decide)).trans ((xLI).trans ((xLI).trans ((xLI).trans ((xLI).trans ((xLI).trans ((xLI).trans (f1))))))))) ?_
                          refine J_lload dX10_goThrough_244 rfl ?_
                          refine J_lload dX10_goThrough_246 rfl ?_
                          refine J_lmul dX10_goThrough_248 ?_
                          refine J_aload_n dX10_goThrough_249 rfl ?_
                          refine J_getI dX10_goThrough_250 fX10_262 s158 (fun _ => rfl) ?_
                          refine J_cvI ((xIL).trans ((xIL).trans ((rI_k (by decide)).trans ((rI_k (by decide)).trans ((rI_k (by decide)).trans ((rI_k (by decide)).trans (rI_s))))))) ?_
                          refine J_i2lN dX10_goThrough_253 (by omega) ?_
                          refine J_lmul dX10_goThrough_254 ?_
                          refine J_ladd dX10_goThrough_255 ?_
                          refine J_lastN dX10_goThrough_256 s175 (by decide) (by omega) ?_
                          refine J_aload_n dX10_goThrough_257 rfl ?_
                          refine J_getR (r := some 175) dX10_goThrough_258 fX10_65 s158 (fun _ => rfl) ((xRL).trans ((xRL).trans ((xRL).trans ((xRI).trans ((xRI).trans ((xRI).trans ((xRI).trans ((xRI).trans ((xRI).trans (g158_34 hG)))))))))) ?_
                          refine J_iconstN (n := 2) dX10_goThrough_261 ?_
                          refine J_dup2 dX10_goThrough_262 rfl rfl ?_
                          refine J_laldN dX10_goThrough_263 s175 (by decide) (by omega) ?_
                          refine J_cvL ((rL_k (by decide)).trans ((rL_k (by decide)).trans ((rL_c (by decide)).trans ((xLI).trans ((xLI).trans ((xLI).trans ((xLI).trans ((xLI).trans ((xLI).trans (f2)))))))))) ?_
                          refine J_lload dX10_goThrough_264 rfl ?_
                          refine J_lload dX10_goThrough_266 rfl ?_
                          refine J_lmul dX10_goThrough_268 ?_
                          refine J_aload_n dX10_goThrough_269 rfl ?_
                          refine J_getI dX10_goThrough_270 fX10_265 s158 (fun _ => rfl) ?_
                          refine J_cvI ((xIL).trans ((xIL).trans ((xIL).trans ((rI_k (by decide)).trans ((rI_k (by decide)).trans ((rI_k (by decide)).trans (rI_s))))))) ?_
                          refine J_i2lN dX10_goThrough_273 (by omega) ?_
                          refine J_lmul dX10_goThrough_274 ?_
                          refine J_ladd dX10_goThrough_275 ?_
                          refine J_lastN dX10_goThrough_276 s175 (by decide) (by omega) ?_
                          refine J_aload_n dX10_goThrough_277 rfl ?_
                          refine J_getR (r := some 175) dX10_goThrough_278 fX10_65 s158 (fun _ => rfl) ((xRL).trans ((xRL).trans ((xRL).trans ((xRL).trans ((xRI).trans ((xRI).trans ((xRI).trans ((xRI).trans ((xRI).trans ((xRI).trans (g158_34 hG))))))))))) ?_
                          refine J_iconstN (n := 3) dX10_goThrough_281 ?_
                          refine J_dup2 dX10_goThrough_282 rfl rfl ?_
                          refine J_laldN dX10_goThrough_283 s175 (by decide) (by omega) ?_
                          refine J_cvL ((rL_k (by decide)).trans ((rL_k (by decide)).trans ((rL_k (by decide)).trans ((rL_c (by decide)).trans ((xLI).trans ((xLI).trans ((xLI).trans ((xLI).trans ((xLI).trans ((xLI).trans (f3))))))))))) ?_
                          refine J_lload dX10_goThrough_284 rfl ?_
                          refine J_lload dX10_goThrough_286 rfl ?_
                          refine J_lmul dX10_goThrough_288 ?_
                          refine J_aload_n dX10_goThrough_289 rfl ?_
                          refine J_getI dX10_goThrough_290 fX10_278 s158 (fun _ => rfl) ?_
                          refine J_cvI ((xIL).trans ((xIL).trans ((xIL).trans ((xIL).trans ((rI_k (by decide)).trans (rI_s)))))) ?_
                          refine J_i2lN dX10_goThrough_293 (by omega) ?_
                          refine J_lmul dX10_goThrough_294 ?_
                          refine J_ladd dX10_goThrough_295 ?_
                          refine J_lastN dX10_goThrough_296 s175 (by decide) (by omega) ?_
                          refine J_iincN (n := 1) (L' := [some (pR (some 158)), some (pI (nI t)), some (pI (nI w)), some (pI (nI fr)), some (pI (nI st)), some (pI (nI W)), some (pI (nI (fr + i1))), some (pL (tenL (W - (fr + i1) - 1))), none, some (pI (nI i2)), some (pI (nI (i3 + 1))), some (pL (lN (dd i2 * u i3))), none]) dX10_goThrough_297 rfl (by decide) rfl ?_
                          refine J_goto dX10_goThrough_300 ?_
                          refine J_drop (L' := [some (pR (some 158)), some (pI (nI t)), some (pI (nI w)), some (pI (nI fr)), some (pI (nI st)), some (pI (nI W)), some (pI (nI (fr + i1))), some (pL (tenL (W - (fr + i1) - 1))), none, some (pI (nI i2)), some (pI (nI (i3 + 1))), none, none]) 11 rfl ?_
                          refine ih3 () _ ⟨fun j hj => ?_, ⟨by rw [rL_k (by decide), rL_k (by decide), rL_k (by decide), rL_s]; rfl, by rw [rL_k (by decide), rL_k (by decide), rL_s]; rfl, by rw [rL_k (by decide), rL_s]; rfl, by rw [rL_s]; rfl⟩, ?_, ?_, fun j hj => ?_, (((((e5.tr ((((((FG.f (by omega) (by omega)).tr (FG.f (by omega) (by omega))).tr (FG.f (by omega) (by omega))).tr (FG.f (by omega) (by omega))).tr (FG.f (by omega) (by omega))).tr (FG.f (by omega) (by omega)))).tr (FG.w (by omega))).tr (FG.w (by omega))).tr (FG.w (by omega))).tr (FG.w (by omega))).tr (FG.w (by omega))⟩
                          · rw [rL_c (by decide), rL_c (by decide), rL_c (by decide), rL_c (by decide)]
                            by_cases q : j = nxN rk rl so (u 4) i2 i3
                            · subst q; rw [rL_s, lN_add]; simp [thI]
                            · rw [rL_k q]; exact (e1 j hj).trans (by simp [thI, q])
                          · rw [rL_k (by decide), rL_k (by decide), rL_k (by decide), rL_k (by decide), rL_c (by decide)]; exact e2
                          · rw [rL_c (by decide), rL_c (by decide), rL_c (by decide), rL_c (by decide), rL_c (by decide)]; exact e3
                          · rw [rL_c (by decide), rL_c (by decide), rL_c (by decide), rL_c (by decide), rL_c (by decide)]; exact e4 j hj
                        · refine J_goto dX10_goThrough_190 ?_
                          refine J_iincN (n := 1) (L' := [some (pR (some 158)), some (pI (nI t)), some (pI (nI w)), some (pI (nI fr)), some (pI (nI st)), some (pI (nI W)), some (pI (nI (fr + i1))), some (pL (tenL (W - (fr + i1) - 1))), none, some (pI (nI i2)), some (pI (nI (i3 + 1))), some (pL (lN (dd i2 * u i3))), none]) dX10_goThrough_297 rfl (by decide) rfl ?_
                          refine J_goto dX10_goThrough_300 ?_
                          refine J_drop (L' := [some (pR (some 158)), some (pI (nI t)), some (pI (nI w)), some (pI (nI fr)), some (pI (nI st)), some (pI (nI W)), some (pI (nI (fr + i1))), some (pL (tenL (W - (fr + i1) - 1))), none, some (pI (nI i2)), some (pI (nI (i3 + 1))), none, none]) 11 rfl ?_
                          have w0 : dd i2 * u i3 = 0 := (pk_lEQ (b := 0) bp (by decide)).mp c11
                          exact ih3 () _ ⟨fun j hj => by rw [e1 j hj]; simp [thI, w0], ⟨by rw [f0]; simp [mnI, w0, lN_0], by rw [f1]; simp [mnI, w0, lN_0], by rw [f2]; simp [mnI, w0, lN_0], by rw [f3]; simp [mnI, w0, lN_0]⟩, e2, e3, e4, e5⟩
          · show J _ _ _ _ _ [some (pR (some 158)), some (pI (nI t)), some (pI (nI w)), some (pI (nI fr)), some (pI (nI st)), some (pI (nI W)), some (pI (nI (fr + i1))), some (pL (tenL (W - (fr + i1) - 1))), none, some (pI (nI i)), none, none, none] _ _ (wL g 174 (fil (fun _ => 0) i (g.2.1 174)))
            refine J_iload dX10_goThrough_112 rfl ?_
            refine J_bipush (x := nI 64) dX10_goThrough_114 (by decide) ?_
            refine J_icmp_geN dX10_goThrough_116 (by omega) (by omega) (fun c12 => ?_) (fun c12 => ?_)
            · exact (show False by omega).elim
            · refine J_aload_n dX10_goThrough_119 rfl ?_
              refine J_getR (r := some 174) dX10_goThrough_120 fX10_62 s158 (fun _ => rfl) ((xRL).trans (g158_33 hG)) ?_
              refine J_iload dX10_goThrough_123 rfl ?_
              refine J_lconst (x := 0) dX10_goThrough_125 rfl ?_
              refine J_lastN dX10_goThrough_126 s174 (by decide) (by omega) ?_
              refine J_iincN (n := 1) (L' := [some (pR (some 158)), some (pI (nI t)), some (pI (nI w)), some (pI (nI fr)), some (pI (nI st)), some (pI (nI W)), some (pI (nI (fr + i1))), some (pL (tenL (W - (fr + i1) - 1))), none, some (pI (nI (i + 1))), none, none, none]) dX10_goThrough_127 rfl (by decide) rfl ?_
              refine J_goto dX10_goThrough_130 ?_
              refine J_h (h' := wL g 174 (fil (fun _ => 0) (i + 1) (g.2.1 174))) (fil_stL rfl) ?_
              exact ih
        refine J_iload dX10_goThrough_71 rfl ?_
        refine J_iload dX10_goThrough_73 rfl ?_
        refine J_icmp_geN dX10_goThrough_75 (by omega) (by omega) (fun c13 => ?_) (fun c13 => ?_)
        · exact (show False by omega).elim
        · refine J_iload dX10_goThrough_78 rfl ?_
          refine J_aload_n dX10_goThrough_80 rfl ?_
          refine J_getI dX10_goThrough_81 fX10_68 s158 (fun _ => rfl) ?_
          refine J_cvI (((n4.2.1 35 (by omega)).trans k35)) ?_
          refine J_icmp_ne dX10_goThrough_84 (fun c14 => ?_) (fun c14 => ?_)
          · have cS : ¬ sf = fr + i1 + 1 := fun z => c14 ((hlp_eq (by omega) (by omega)).mpr z)
            exact K96 h1 ⟨fun j hj => by rw [n1 j hj]; simp [dS, cS], ⟨d0, d1, d2, d3⟩, n2, by rw [n3]; simp [CW, cS], n4⟩
          · refine J_aload_n dX10_goThrough_87 rfl ?_
            refine J_iload dX10_goThrough_88 rfl ?_
            refine J_iload dX10_goThrough_90 rfl ?_
            refine J_isubN dX10_goThrough_92 (by omega) ?_
            have cS : sf = fr + i1 + 1 := (hlp_eq (by omega) (by omega)).mp c14
            obtain ⟨e36, e37, eS, eM, est⟩ := hsl (by omega)
            refine J_cVV (ci := 10) (c := 158) (as := [pI (nI (W - (fr + i1)))]) (st := []) dX10_goThrough_93 lX10_286 okX10_sledge vX10_sledge s158 (by decide) rfl rfl rfl (Nat.le_of_ble_eq_true rfl) ⟨Nat.le_of_ble_eq_true rfl, Nat.le_of_ble_eq_true rfl⟩ CR.f (c_X10_sledge (d := DW rk rl so u sf S M fr st i1) (cm := CW rk rl so u sf S M fr st W i1) hG ((n4.2.1 36 (by omega)).trans e36) ((n4.2.1 37 (by omega)).trans e37) n1 (fun j hj => DW_bd2 hu hi4 j) (fun j hj hp => Nat.not_lt.mp (fun z => by rw [DW_sup i1 (by omega) j (by omega)] at hp; omega)) n3 eS eM (by omega)) (fun g9 e9 => ?_)
            obtain ⟨z1, z2, z3, z4⟩ := e9
            exact K96 g9 ⟨fun j hj => by rw [z1 j hj]; simp [dS, cS], ⟨by rw [z4]; exact d0, by rw [z4]; exact d1, by rw [z4]; exact d2, by rw [z4]; exact d3⟩, by rw [z4]; exact n2, by rw [z2]; simp [CW, cS], n4.tr z3⟩
    · show J _ _ _ _ _ [some (pR (some 158)), some (pI (nI t)), some (pI (nI w)), some (pI (nI fr)), some (pI (nI st)), some (pI (nI W)), some (pI (nI i)), none, none, none, none, none, none] _ _ (wL gA 175 (fil (fun _ => 0) i (gA.2.1 175)))
      refine J_iload dX10_goThrough_35 rfl ?_
      refine J_iconstN (n := 5) dX10_goThrough_37 ?_
      refine J_icmp_geN dX10_goThrough_38 (by omega) (by omega) (fun c15 => ?_) (fun c15 => ?_)
      · exact (show False by omega).elim
      · refine J_aload_n dX10_goThrough_41 rfl ?_
        refine J_getR (r := some 175) dX10_goThrough_42 fX10_65 s158 (fun _ => rfl) ((xRL).trans (g158_34 hG)) ?_
        refine J_iload dX10_goThrough_45 rfl ?_
        refine J_lconst (x := 0) dX10_goThrough_47 rfl ?_
        refine J_lastN dX10_goThrough_48 s175 (by decide) (by omega) ?_
        refine J_iincN (n := 1) (L' := [some (pR (some 158)), some (pI (nI t)), some (pI (nI w)), some (pI (nI fr)), some (pI (nI st)), some (pI (nI W)), some (pI (nI (i + 1))), none, none, none, none, none, none]) dX10_goThrough_49 rfl (by decide) rfl ?_
        refine J_goto dX10_goThrough_52 ?_
        refine J_h (h' := wL gA 175 (fil (fun _ => 0) (i + 1) (gA.2.1 175))) (fil_stL rfl) ?_
        exact ih
  · show J _ _ _ _ _ [some (pR (some 158)), some (pI (nI t)), some (pI (nI w)), some (pI (nI fr)), some (pI (nI st)), some (pI (nI W)), some (pI (nI i)), none, none, none, none, none, none] _ _ (wL h0 173 (fil (fun _ => 0) i (h0.2.1 173)))
    refine J_iload dX10_goThrough_11 rfl ?_
    refine J_bipush (x := nI 64) dX10_goThrough_13 (by decide) ?_
    refine J_icmp_geN dX10_goThrough_15 (by omega) (by omega) (fun c16 => ?_) (fun c16 => ?_)
    · exact (show False by omega).elim
    · refine J_aload_n dX10_goThrough_18 rfl ?_
      refine J_getR (r := some 173) dX10_goThrough_19 fX10_59 s158 (fun _ => rfl) ((xRL).trans (g158_32 hG)) ?_
      refine J_iload dX10_goThrough_22 rfl ?_
      refine J_lconst (x := 0) dX10_goThrough_24 rfl ?_
      refine J_lastN dX10_goThrough_25 s173 (by decide) (by omega) ?_
      refine J_iincN (n := 1) (L' := [some (pR (some 158)), some (pI (nI t)), some (pI (nI w)), some (pI (nI fr)), some (pI (nI st)), some (pI (nI W)), some (pI (nI (i + 1))), none, none, none, none, none, none]) dX10_goThrough_26 rfl (by decide) rfl ?_
      refine J_goto dX10_goThrough_29 ?_
      refine J_h (h' := wL h0 173 (fil (fun _ => 0) (i + 1) (h0.2.1 173))) (fil_stL rfl) ?_
      exact ih
