theorem c_X10_safeIn {h0 : PH} {t w q W rk rl so : Nat} {u : Nat → Nat} (hG0 : GR h0.2.2) (ht : t < 4) (hw : w < 4) (hT0 : TM h0 t rk rl so) (hU0 : WM h0 t w u) (hW : h0.1 160 0 = nI W) (bW : W ≤ 5) (bq : q < 60) : CtL mX10_safeIn h0 [pR (some 158), pI (nI t), pI (nI q), pI (nI w)] (fun v h' => v = sL64 (fun s => lN (DF rk rl so u q W s)) 64 ∧ FG h0 h') := by
  have hG := hG0
  have hu : ∀ n, n < 5 → u n ≤ 10 := fun n hn => (hU0 n hn).2
  refine Ct.of (L := [some (pR (some 158)), some (pI (nI t)), some (pI (nI q)), some (pI (nI w)), none, none, none]) rfl rfl (Nat.le_of_ble_eq_true rfl) rfl ?_
  refine J_iconstN (n := 0) dX10_safeIn_0 ?_
  refine J_istore (L' := [some (pR (some 158)), some (pI (nI t)), some (pI (nI q)), some (pI (nI w)), some (pI (nI 0)), none, none]) dX10_safeIn_1 (by decide) rfl ?_
  refine J_h (h' := wL h0 173 (fil (fun j => lN (if j = q then 1 else 0)) 0 (h0.2.1 173))) fil_h0L ?_
  refine J_for (L := fun i => [some (pR (some 158)), some (pI (nI t)), some (pI (nI q)), some (pI (nI w)), some (pI (nI i)), none, none]) (hf := fun i => wL h0 173 (fil (fun j => lN (if j = q then 1 else 0)) i (h0.2.1 173))) (e := 64) ?_ (fun i hi ih => ?_) 0 (by omega)
  · show J _ _ _ _ _ [some (pR (some 158)), some (pI (nI t)), some (pI (nI q)), some (pI (nI w)), some (pI (nI 64)), none, none] _ _ (wL h0 173 (fil (fun j => lN (if j = q then 1 else 0)) 64 (h0.2.1 173)))
    refine J_iload dX10_safeIn_3 rfl ?_
    refine J_bipush (x := nI 64) dX10_safeIn_5 (by decide) ?_
    refine J_icmp_geN dX10_safeIn_7 (by decide) (by decide) (fun c0 => ?_) (fun c0 => absurd c0 (by decide))
    refine J_iconstN (n := 0) dX10_safeIn_34 ?_
    refine J_istore (L' := [some (pR (some 158)), some (pI (nI t)), some (pI (nI q)), some (pI (nI w)), some (pI (nI 0)), none, none]) dX10_safeIn_35 (by decide) rfl ?_
    refine J_forI (α := Unit) (L := fun i1 aa1 => [some (pR (some 158)), some (pI (nI t)), some (pI (nI q)), some (pI (nI w)), some (pI (nI i1)), none, none]) (fun i1 aa1 h1 => (∀ j, j < 64 → h1.2.1 173 j = lN (DF rk rl so u q i1 j)) ∧ FG h0 h1) (e := W) (fun aa1 h1 hI1 => ?_) (fun i1 aa1 h1 hi1 hI1 ih1 => ?_) 0 (()) _ (by omega) (⟨fun j hj => by rw [rWL_s, fil_in hj]; rfl, FG.w (by omega)⟩)
    · show J _ _ _ _ _ [some (pR (some 158)), some (pI (nI t)), some (pI (nI q)), some (pI (nI w)), some (pI (nI W)), none, none] _ _ h1
      obtain ⟨n1, n4⟩ := hI1
      have hG := n4.g hG0
      refine J_iload dX10_safeIn_37 rfl ?_
      refine J_aload_n dX10_safeIn_39 rfl ?_
      refine J_getR (r := some 160) dX10_safeIn_40 fX10_17 s158 (fun _ => rfl) (g158_12 hG) ?_
      refine J_iconstN (n := 0) dX10_safeIn_43 ?_
      refine J_ialdN dX10_safeIn_44 s160 (by decide) (by omega) ?_
      refine J_cvI (((n4.i (by decide) (by decide) (by decide) (by decide)).trans hW)) ?_
      refine J_icmp_geN dX10_safeIn_45 (by omega) (by omega) (fun c1 => ?_) (fun c1 => ?_)
      · refine J_lconst (x := 0) dX10_safeIn_197 rfl ?_
        refine J_lstore (L' := [some (pR (some 158)), some (pI (nI t)), some (pI (nI q)), some (pI (nI w)), some (pL 0), none, none]) dX10_safeIn_198 (by decide) rfl ?_
        refine J_iconstN (n := 0) dX10_safeIn_200 ?_
        refine J_istore (L' := [some (pR (some 158)), some (pI (nI t)), some (pI (nI q)), some (pI (nI w)), some (pL 0), none, some (pI (nI 0))]) dX10_safeIn_201 (by decide) rfl ?_
        refine J_L (L' := [some (pR (some 158)), some (pI (nI t)), some (pI (nI q)), some (pI (nI w)), some (pL (sL64 (fun s => lN (DF rk rl so u q W s)) 0)), none, some (pI (nI 0))]) rfl ?_
        refine J_for (L := fun i => [some (pR (some 158)), some (pI (nI t)), some (pI (nI q)), some (pI (nI w)), some (pL (sL64 (fun s => lN (DF rk rl so u q W s)) i)), none, some (pI (nI i))]) (hf := fun i => h1) (e := 64) ?_ (fun i hi ih => ?_) 0 (by omega)
        · show J _ _ _ _ _ [some (pR (some 158)), some (pI (nI t)), some (pI (nI q)), some (pI (nI w)), some (pL (sL64 (fun s => lN (DF rk rl so u q W s)) 64)), none, some (pI (nI 64))] _ _ (h1)
          refine J_iload dX10_safeIn_203 rfl ?_
          refine J_bipush (x := nI 64) dX10_safeIn_205 (by decide) ?_
          refine J_icmp_geN dX10_safeIn_207 (by decide) (by decide) (fun c0 => ?_) (fun c0 => absurd c0 (by decide))
          refine J_lload dX10_safeIn_228 rfl ?_
          exact J_retL dX10_safeIn_230 rfl ⟨rfl, n4⟩
        · show J _ _ _ _ _ [some (pR (some 158)), some (pI (nI t)), some (pI (nI q)), some (pI (nI w)), some (pL (sL64 (fun s => lN (DF rk rl so u q W s)) i)), none, some (pI (nI i))] _ _ (h1)
          refine J_iload dX10_safeIn_203 rfl ?_
          refine J_bipush (x := nI 64) dX10_safeIn_205 (by decide) ?_
          refine J_icmp_geN dX10_safeIn_207 (by omega) (by omega) (fun c2 => ?_) (fun c2 => ?_)
          · exact (show False by omega).elim
          · refine J_lload dX10_safeIn_210 rfl ?_
            refine J_aload_n dX10_safeIn_212 rfl ?_
            refine J_getR (r := some 173) dX10_safeIn_213 fX10_59 s158 (fun _ => rfl) (g158_32 hG) ?_
            refine J_iload dX10_safeIn_216 rfl ?_
            refine J_laldN dX10_safeIn_218 s173 (by decide) (by omega) ?_
            refine J_cvL ((n1 i hi)) ?_
            refine J_ladd dX10_safeIn_219 ?_
            refine J_lstore (L' := [some (pR (some 158)), some (pI (nI t)), some (pI (nI q)), some (pI (nI w)), some (pL ((sL64 (fun s => lN (DF rk rl so u q W s)) i) + (lN (DF rk rl so u q W i)))), none, some (pI (nI i))]) dX10_safeIn_220 (by decide) rfl ?_
            refine J_iincN (n := 1) (L' := [some (pR (some 158)), some (pI (nI t)), some (pI (nI q)), some (pI (nI w)), some (pL ((sL64 (fun s => lN (DF rk rl so u q W s)) i) + (lN (DF rk rl so u q W i)))), none, some (pI (nI (i + 1)))]) dX10_safeIn_222 rfl (by decide) rfl ?_
            refine J_goto dX10_safeIn_225 ?_
            exact ih
      · exact (show False by omega).elim
    · show J _ _ _ _ _ [some (pR (some 158)), some (pI (nI t)), some (pI (nI q)), some (pI (nI w)), some (pI (nI i1)), none, none] _ _ h1
      obtain ⟨n1, n4⟩ := hI1
      have hG := n4.g hG0
      have hi4 : i1 ≤ 4 := by omega
      have bdd := DF_bd2 (rk := rk) (rl := rl) (so := so) (st := q) hu hi4
      obtain ⟨dd, hdd⟩ : ∃ dd, dd = DF rk rl so u q i1 := ⟨_, rfl⟩
      rw [← hdd] at n1 bdd
      refine J_iload dX10_safeIn_37 rfl ?_
      refine J_aload_n dX10_safeIn_39 rfl ?_
      refine J_getR (r := some 160) dX10_safeIn_40 fX10_17 s158 (fun _ => rfl) (g158_12 hG) ?_
      refine J_iconstN (n := 0) dX10_safeIn_43 ?_
      refine J_ialdN dX10_safeIn_44 s160 (by decide) (by omega) ?_
      refine J_cvI (((n4.i (by decide) (by decide) (by decide) (by decide)).trans hW)) ?_
      refine J_icmp_geN dX10_safeIn_45 (by omega) (by omega) (fun c3 => ?_) (fun c3 => ?_)
      · exact (show False by omega).elim
      · refine J_iconstN (n := 0) dX10_safeIn_48 ?_
        refine J_istore (L' := [some (pR (some 158)), some (pI (nI t)), some (pI (nI q)), some (pI (nI w)), some (pI (nI i1)), some (pI (nI 0)), none]) dX10_safeIn_49 (by decide) rfl ?_
        refine J_h (h' := wL h1 174 (fil (fun _ => 0) 0 (h1.2.1 174))) fil_h0L ?_
        refine J_for (L := fun i => [some (pR (some 158)), some (pI (nI t)), some (pI (nI q)), some (pI (nI w)), some (pI (nI i1)), some (pI (nI i)), none]) (hf := fun i => wL h1 174 (fil (fun _ => 0) i (h1.2.1 174))) (e := 64) ?_ (fun i hi ih => ?_) 0 (by omega)
        · show J _ _ _ _ _ [some (pR (some 158)), some (pI (nI t)), some (pI (nI q)), some (pI (nI w)), some (pI (nI i1)), some (pI (nI 64)), none] _ _ (wL h1 174 (fil (fun _ => 0) 64 (h1.2.1 174)))
          refine J_iload dX10_safeIn_51 rfl ?_
          refine J_bipush (x := nI 64) dX10_safeIn_53 (by decide) ?_
          refine J_icmp_geN dX10_safeIn_55 (by decide) (by decide) (fun c0 => ?_) (fun c0 => absurd c0 (by decide))
          refine J_iconstN (n := 0) dX10_safeIn_72 ?_
          refine J_istore (L' := [some (pR (some 158)), some (pI (nI t)), some (pI (nI q)), some (pI (nI w)), some (pI (nI i1)), some (pI (nI 0)), none]) dX10_safeIn_73 (by decide) rfl ?_
          refine J_forI (α := Unit) (L := fun i2 aa2 => [some (pR (some 158)), some (pI (nI t)), some (pI (nI q)), some (pI (nI w)), some (pI (nI i1)), some (pI (nI i2)), none]) (fun i2 aa2 h2 => (∀ j, j < 64 → h2.2.1 174 j = lN (tsO rk rl so u dd i2 j)) ∧ (∀ j, j < 64 → h2.2.1 173 j = lN (dd j)) ∧ FG h0 h2) (e := 64) (fun aa2 h2 hI2 => ?_) (fun i2 aa2 h2 hi2 hI2 ih2 => ?_) 0 () _ (by omega) ⟨fun j hj => by rw [rWL_s, fil_in hj]; rfl, fun j hj => by rw [rWL_c (by decide)]; exact n1 j hj, n4.tr (FG.w (by omega))⟩
          · show J _ _ _ _ _ [some (pR (some 158)), some (pI (nI t)), some (pI (nI q)), some (pI (nI w)), some (pI (nI i1)), some (pI (nI 64)), none] _ _ h2
            obtain ⟨e1, e4, e5⟩ := hI2
            have hG := e5.g hG0
            refine J_iload dX10_safeIn_75 rfl ?_
            refine J_bipush (x := nI 64) dX10_safeIn_77 (by decide) ?_
            refine J_icmp_geN dX10_safeIn_79 (by decide) (by decide) (fun c0 => ?_) (fun c0 => absurd c0 (by decide))
            refine J_iconstN (n := 0) dX10_safeIn_161 ?_
            refine J_istore (L' := [some (pR (some 158)), some (pI (nI t)), some (pI (nI q)), some (pI (nI w)), some (pI (nI i1)), some (pI (nI 0)), none]) dX10_safeIn_162 (by decide) rfl ?_
            refine J_h (h' := wL h2 173 (fil (h2.2.1 174) 0 (h2.2.1 173))) fil_h0L ?_
            refine J_for (L := fun i => [some (pR (some 158)), some (pI (nI t)), some (pI (nI q)), some (pI (nI w)), some (pI (nI i1)), some (pI (nI i)), none]) (hf := fun i => wL h2 173 (fil (h2.2.1 174) i (h2.2.1 173))) (e := 64) ?_ (fun i hi ih => ?_) 0 (by omega)
            · show J _ _ _ _ _ [some (pR (some 158)), some (pI (nI t)), some (pI (nI q)), some (pI (nI w)), some (pI (nI i1)), some (pI (nI 64)), none] _ _ (wL h2 173 (fil (h2.2.1 174) 64 (h2.2.1 173)))
              refine J_iload dX10_safeIn_164 rfl ?_
              refine J_bipush (x := nI 64) dX10_safeIn_166 (by decide) ?_
              refine J_icmp_geN dX10_safeIn_168 (by decide) (by decide) (fun c0 => ?_) (fun c0 => absurd c0 (by decide))
              refine J_iincN (n := 1) (L' := [some (pR (some 158)), some (pI (nI t)), some (pI (nI q)), some (pI (nI w)), some (pI (nI (i1 + 1))), some (pI (nI 64)), none]) dX10_safeIn_191 rfl (by decide) rfl ?_
              refine J_goto dX10_safeIn_194 ?_
              refine J_drop (L' := [some (pR (some 158)), some (pI (nI t)), some (pI (nI q)), some (pI (nI w)), some (pI (nI (i1 + 1))), none, none]) 5 rfl ?_
              refine ih1 () _ ⟨fun j hj => ?_, e5.tr (FG.w (by omega))⟩
              rw [rWL_s, fil_in hj, e1 j hj, DF, ← hdd]
            · show J _ _ _ _ _ [some (pR (some 158)), some (pI (nI t)), some (pI (nI q)), some (pI (nI w)), some (pI (nI i1)), some (pI (nI i)), none] _ _ (wL h2 173 (fil (h2.2.1 174) i (h2.2.1 173)))
              refine J_iload dX10_safeIn_164 rfl ?_
              refine J_bipush (x := nI 64) dX10_safeIn_166 (by decide) ?_
              refine J_icmp_geN dX10_safeIn_168 (by omega) (by omega) (fun c4 => ?_) (fun c4 => ?_)
              · exact (show False by omega).elim
              · refine J_aload_n dX10_safeIn_171 rfl ?_
                refine J_getR (r := some 173) dX10_safeIn_172 fX10_59 s158 (fun _ => rfl) ((xRL).trans (g158_32 hG)) ?_
                refine J_iload dX10_safeIn_175 rfl ?_
                refine J_aload_n dX10_safeIn_177 rfl ?_
                refine J_getR (r := some 174) dX10_safeIn_178 fX10_62 s158 (fun _ => rfl) ((xRL).trans (g158_33 hG)) ?_
                refine J_iload dX10_safeIn_181 rfl ?_
                refine J_laldN dX10_safeIn_183 s174 (by decide) (by omega) ?_
                refine J_cvL (y := h2.2.1 174 i) ((congrFun (rWL_c (by decide)) i)) ?_
                refine J_lastN dX10_safeIn_184 s173 (by decide) (by omega) ?_
                refine J_iincN (n := 1) (L' := [some (pR (some 158)), some (pI (nI t)), some (pI (nI q)), some (pI (nI w)), some (pI (nI i1)), some (pI (nI (i + 1))), none]) dX10_safeIn_185 rfl (by decide) rfl ?_
                refine J_goto dX10_safeIn_188 ?_
                refine J_h (h' := wL h2 173 (fil (h2.2.1 174) (i + 1) (h2.2.1 173))) (fil_stL rfl) ?_
                exact ih
          · obtain ⟨e1, e4, e5⟩ := hI2
            have hG := e5.g hG0
            have bi := bdd i2
            rcases Nat.eq_zero_or_pos (dd i2) with e0 | e0
            · show J _ _ _ _ _ [some (pR (some 158)), some (pI (nI t)), some (pI (nI q)), some (pI (nI w)), some (pI (nI i1)), some (pI (nI i2)), none] _ _ h2
              refine J_iload dX10_safeIn_75 rfl ?_
              refine J_bipush (x := nI 64) dX10_safeIn_77 (by decide) ?_
              refine J_icmp_geN dX10_safeIn_79 (by omega) (by omega) (fun c5 => ?_) (fun c5 => ?_)
              · exact (show False by omega).elim
              · refine J_iconstN (n := 0) dX10_safeIn_82 ?_
                refine J_istore (L' := [some (pR (some 158)), some (pI (nI t)), some (pI (nI q)), some (pI (nI w)), some (pI (nI i1)), some (pI (nI i2)), some (pI (nI 0))]) dX10_safeIn_83 (by decide) rfl ?_
                refine J_iload dX10_safeIn_85 rfl ?_
                refine J_iconstN (n := 4) dX10_safeIn_87 ?_
                refine J_icmp_geN dX10_safeIn_88 (by decide) (by decide) (fun c0 => absurd c0 (by decide)) (fun c0 => ?_)
                refine J_aload_n dX10_safeIn_91 rfl ?_
                refine J_getR (r := some 173) dX10_safeIn_92 fX10_59 s158 (fun _ => rfl) (g158_32 hG) ?_
                refine J_iload dX10_safeIn_95 rfl ?_
                refine J_laldN dX10_safeIn_97 s173 (by decide) (by omega) ?_
                refine J_cvL (((e4 i2 hi2).trans (congrArg lN e0))) ?_
                refine J_lconst (x := 0) dX10_safeIn_98 rfl ?_
                refine J_lcmp dX10_safeIn_99 ?_
                refine J_lif_le dX10_safeIn_100 (fun c6 => ?_) (fun c6 => ?_)
                · refine J_iincN (n := 1) (L' := [some (pR (some 158)), some (pI (nI t)), some (pI (nI q)), some (pI (nI w)), some (pI (nI i1)), some (pI (nI (i2 + 1))), some (pI (nI 0))]) dX10_safeIn_155 rfl (by decide) rfl ?_
                  refine J_goto dX10_safeIn_158 ?_
                  refine J_drop (L' := [some (pR (some 158)), some (pI (nI t)), some (pI (nI q)), some (pI (nI w)), some (pI (nI i1)), some (pI (nI (i2 + 1))), none]) 6 rfl ?_
                  exact ih2 () _ ⟨fun j hj => by rw [e1 j hj]; show _ = lN (tsI rk rl so u dd i2 _ 4 j); rw [tsI_0 e0], e4, e5⟩
                · exact absurd (Int64.le_refl 0) c6
            · show J _ _ _ _ _ [some (pR (some 158)), some (pI (nI t)), some (pI (nI q)), some (pI (nI w)), some (pI (nI i1)), some (pI (nI i2)), none] _ _ h2
              refine J_iload dX10_safeIn_75 rfl ?_
              refine J_bipush (x := nI 64) dX10_safeIn_77 (by decide) ?_
              refine J_icmp_geN dX10_safeIn_79 (by omega) (by omega) (fun c7 => ?_) (fun c7 => ?_)
              · exact (show False by omega).elim
              · refine J_iconstN (n := 0) dX10_safeIn_82 ?_
                refine J_istore (L' := [some (pR (some 158)), some (pI (nI t)), some (pI (nI q)), some (pI (nI w)), some (pI (nI i1)), some (pI (nI i2)), some (pI (nI 0))]) dX10_safeIn_83 (by decide) rfl ?_
                refine J_forI (α := Unit) (L := fun i3 aa3 => [some (pR (some 158)), some (pI (nI t)), some (pI (nI q)), some (pI (nI w)), some (pI (nI i1)), some (pI (nI i2)), some (pI (nI i3))]) (fun i3 aa3 h3 => (∀ j, j < 64 → h3.2.1 174 j = lN (tsI rk rl so u dd i2 (tsO rk rl so u dd i2) i3 j)) ∧ (∀ j, j < 64 → h3.2.1 173 j = lN (dd j)) ∧ FG h0 h3) (e := 4) (fun aa3 h3 hI3 => ?_) (fun i3 aa3 h3 hi3 hI3 ih3 => ?_) 0 () _ (by omega) ⟨e1, e4, e5⟩
                · show J _ _ _ _ _ [some (pR (some 158)), some (pI (nI t)), some (pI (nI q)), some (pI (nI w)), some (pI (nI i1)), some (pI (nI i2)), some (pI (nI 4))] _ _ h3
                  refine J_iload dX10_safeIn_85 rfl ?_
                  refine J_iconstN (n := 4) dX10_safeIn_87 ?_
                  refine J_icmp_geN dX10_safeIn_88 (by decide) (by decide) (fun c0 => ?_) (fun c0 => absurd c0 (by decide))
                  refine J_iincN (n := 1) (L' := [some (pR (some 158)), some (pI (nI t)), some (pI (nI q)), some (pI (nI w)), some (pI (nI i1)), some (pI (nI (i2 + 1))), some (pI (nI 4))]) dX10_safeIn_155 rfl (by decide) rfl ?_
                  refine J_goto dX10_safeIn_158 ?_
                  refine J_drop (L' := [some (pR (some 158)), some (pI (nI t)), some (pI (nI q)), some (pI (nI w)), some (pI (nI i1)), some (pI (nI (i2 + 1))), none]) 6 rfl ?_
                  exact ih2 () _ hI3
                · show J _ _ _ _ _ [some (pR (some 158)), some (pI (nI t)), some (pI (nI q)), some (pI (nI w)), some (pI (nI i1)), some (pI (nI i2)), some (pI (nI i3))] _ _ h3
                  obtain ⟨e1, e4, e5⟩ := hI3
                  have hG := e5.g hG0
                  have hT := hT0.fg e5
                  have hU := hU0.fg e5
                  have ui := hu i3 (by omega)
                  have nb := nx_le rk rl so (u 4) i2 i3
                  refine J_iload dX10_safeIn_85 rfl ?_
                  refine J_iconstN (n := 4) dX10_safeIn_87 ?_
                  refine J_icmp_geN dX10_safeIn_88 (by omega) (by omega) (fun c8 => ?_) (fun c8 => ?_)
                  · exact (show False by omega).elim
                  · refine J_aload_n dX10_safeIn_91 rfl ?_
                    refine J_getR (r := some 173) dX10_safeIn_92 fX10_59 s158 (fun _ => rfl) (g158_32 hG) ?_
                    refine J_iload dX10_safeIn_95 rfl ?_
                    refine J_laldN dX10_safeIn_97 s173 (by decide) (by omega) ?_
                    refine J_cvL ((e4 i2 hi2)) ?_
                    refine J_lconst (x := 0) dX10_safeIn_98 rfl ?_
                    refine J_lcmp dX10_safeIn_99 ?_
                    refine J_lif_le dX10_safeIn_100 (fun c9 => ?_) (fun c9 => ?_)
                    · exact absurd c9 (lN_nle e0 (by omega))
                    · refine J_aload_n dX10_safeIn_103 rfl ?_
                      refine J_iload_n dX10_safeIn_104 rfl ?_
                      refine J_iload_n dX10_safeIn_105 rfl ?_
                      refine J_iload dX10_safeIn_106 rfl ?_
                      refine J_iload dX10_safeIn_108 rfl ?_
                      refine J_cVV (ci := 10) (c := 158) (as := [pI (nI t), pI (nI w), pI (nI i2), pI (nI i3)]) (st := []) dX10_safeIn_110 lX10_294 okX10_week vX10_week s158 (by decide) rfl rfl rfl (Nat.le_of_ble_eq_true rfl) ⟨Nat.le_of_ble_eq_true rfl, Nat.le_of_ble_eq_true rfl⟩ CR.f (c_X10_week hG ht hw hT hU (by omega) (by omega)) (fun g7 e7 => ?_)
                      subst e7
                      have r5 : lkN i2 i3 (u 4) ≤ i3 := by unfold lkN; omega
                      have f7 := ((((((FG.f (h := h3) (x := nI (gvN rk rl i2 i3 (u 4))) (k := 27) (by omega) (by omega)).tr (FG.f (x := nI (lkN i2 i3 (u 4))) (k := 28) (by omega) (by omega))).tr (FG.f (x := nI (msN rk rl i2 i3 (u 4))) (k := 29) (by omega) (by omega))).tr (FG.f (x := nI (rsN rk rl i2 i3 (u 4))) (k := 31) (by omega) (by omega))).tr (FG.f (x := nI (slN so (rsN rk rl i2 i3 (u 4)))) (k := 30) (by omega) (by omega))).tr (FG.f (x := nI (nxN rk rl so (u 4) i2 i3)) (k := 31) (by omega) (by omega)))
                      refine J_aload_n dX10_safeIn_113 rfl ?_
                      refine J_getI dX10_safeIn_114 fX10_262 s158 (fun _ => rfl) ?_
                      refine J_cvI ((rI_k (by decide)).trans ((rI_k (by decide)).trans ((rI_k (by decide)).trans ((rI_k (by decide)).trans (rI_s))))) ?_
                      refine J_if_neN dX10_safeIn_117 (by omega) (fun c10 => ?_) (fun c10 => ?_)
                      · refine J_iincN (n := 1) (L' := [some (pR (some 158)), some (pI (nI t)), some (pI (nI q)), some (pI (nI w)), some (pI (nI i1)), some (pI (nI i2)), some (pI (nI (i3 + 1)))]) dX10_safeIn_149 rfl (by decide) rfl ?_
                        refine J_goto dX10_safeIn_152 ?_
                        exact ih3 () _ ⟨fun j hj => (e1 j hj).trans (by simp [tsI, c10]), e4, (e5.tr ((((((FG.f (by omega) (by omega)).tr (FG.f (by omega) (by omega))).tr (FG.f (by omega) (by omega))).tr (FG.f (by omega) (by omega))).tr (FG.f (by omega) (by omega))).tr (FG.f (by omega) (by omega))))⟩
                      · refine J_aload_n dX10_safeIn_120 rfl ?_
                        refine J_getR (r := some 174) dX10_safeIn_121 fX10_62 s158 (fun _ => rfl) ((xRI).trans ((xRI).trans ((xRI).trans ((xRI).trans ((xRI).trans ((xRI).trans (g158_33 hG))))))) ?_
                        refine J_aload_n dX10_safeIn_124 rfl ?_
                        refine J_getI dX10_safeIn_125 fX10_268 s158 (fun _ => rfl) ?_
                        refine J_cvI (rI_s) ?_
                        refine J_dup2 dX10_safeIn_128 rfl rfl ?_
                        refine J_laldN dX10_safeIn_129 s174 (by decide) (by omega) ?_
                        refine J_cvL ((xLI).trans ((xLI).trans ((xLI).trans ((xLI).trans ((xLI).trans ((xLI).trans ((e1 _ (by omega))))))))) ?_
                        refine J_aload_n dX10_safeIn_130 rfl ?_
                        refine J_getR (r := some 173) dX10_safeIn_131 fX10_59 s158 (fun _ => rfl) ((xRI).trans ((xRI).trans ((xRI).trans ((xRI).trans ((xRI).trans ((xRI).trans (g158_32 hG))))))) ?_
                        refine J_iload dX10_safeIn_134 rfl ?_
                        refine J_laldN dX10_safeIn_136 s173 (by decide) (by omega) ?_
                        refine J_cvL ((xLI).trans ((xLI).trans ((xLI).trans ((xLI).trans ((xLI).trans ((xLI).trans ((e4 i2 hi2)))))))) ?_
                        refine J_aload_n dX10_safeIn_137 rfl ?_
                        refine J_iload_n dX10_safeIn_138 rfl ?_
                        refine J_iload_n dX10_safeIn_139 rfl ?_
                        refine J_iload dX10_safeIn_140 rfl ?_
                        refine J_cVI (ci := 10) (c := 158) (as := [pI (nI t), pI (nI w), pI (nI i3)]) (st := [pL (lN (dd i2)), pL (lN (tsI rk rl so u dd i2 (tsO rk rl so u dd i2) i3 (nxN rk rl so (u 4) i2 i3))), pI (nI (nxN rk rl so (u 4) i2 i3)), pR (some 174)]) dX10_safeIn_142 lX10_249 okX10_chance vX10_chance s158 (by decide) rfl rfl rfl (Nat.le_of_ble_eq_true rfl) ⟨Nat.le_of_ble_eq_true rfl, Nat.le_of_ble_eq_true rfl⟩ CR.f (c_X10_chance hG ht hw (by omega) ((hU.fg f7) i3 (by omega)).1) (fun vq11 gq11 eq11 => ?_)
                        obtain ⟨rfl, fq11⟩ := eq11
                        rw [fq11]
                        refine J_i2lN dX10_safeIn_145 (by omega) ?_
                        refine J_lmul dX10_safeIn_146 ?_
                        refine J_ladd dX10_safeIn_147 ?_
                        refine J_lastN dX10_safeIn_148 s174 (by decide) (by omega) ?_
                        refine J_iincN (n := 1) (L' := [some (pR (some 158)), some (pI (nI t)), some (pI (nI q)), some (pI (nI w)), some (pI (nI i1)), some (pI (nI i2)), some (pI (nI (i3 + 1)))]) dX10_safeIn_149 rfl (by decide) rfl ?_
                        refine J_goto dX10_safeIn_152 ?_
                        refine ih3 () _ ⟨fun j hj => ?_, fun j hj => ?_, (e5.tr ((((((FG.f (by omega) (by omega)).tr (FG.f (by omega) (by omega))).tr (FG.f (by omega) (by omega))).tr (FG.f (by omega) (by omega))).tr (FG.f (by omega) (by omega))).tr (FG.f (by omega) (by omega)))).tr (FG.w (by omega))⟩
                        · by_cases q0 : j = nxN rk rl so (u 4) i2 i3
                          · subst q0; rw [rL_s, lN_mul, lN_add]; simp [tsI, c10]
                          · rw [rL_k q0]; exact (e1 j hj).trans (by simp [tsI, q0])
                        · rw [rL_c (by decide)]; exact e4 j hj
        · show J _ _ _ _ _ [some (pR (some 158)), some (pI (nI t)), some (pI (nI q)), some (pI (nI w)), some (pI (nI i1)), some (pI (nI i)), none] _ _ (wL h1 174 (fil (fun _ => 0) i (h1.2.1 174)))
          refine J_iload dX10_safeIn_51 rfl ?_
          refine J_bipush (x := nI 64) dX10_safeIn_53 (by decide) ?_
          refine J_icmp_geN dX10_safeIn_55 (by omega) (by omega) (fun c12 => ?_) (fun c12 => ?_)
          · exact (show False by omega).elim
          · refine J_aload_n dX10_safeIn_58 rfl ?_
            refine J_getR (r := some 174) dX10_safeIn_59 fX10_62 s158 (fun _ => rfl) ((xRL).trans (g158_33 hG)) ?_
            refine J_iload dX10_safeIn_62 rfl ?_
            refine J_lconst (x := 0) dX10_safeIn_64 rfl ?_
            refine J_lastN dX10_safeIn_65 s174 (by decide) (by omega) ?_
            refine J_iincN (n := 1) (L' := [some (pR (some 158)), some (pI (nI t)), some (pI (nI q)), some (pI (nI w)), some (pI (nI i1)), some (pI (nI (i + 1))), none]) dX10_safeIn_66 rfl (by decide) rfl ?_
            refine J_goto dX10_safeIn_69 ?_
            refine J_h (h' := wL h1 174 (fil (fun _ => 0) (i + 1) (h1.2.1 174))) (fil_stL rfl) ?_
            exact ih
  · show J _ _ _ _ _ [some (pR (some 158)), some (pI (nI t)), some (pI (nI q)), some (pI (nI w)), some (pI (nI i)), none, none] _ _ (wL h0 173 (fil (fun j => lN (if j = q then 1 else 0)) i (h0.2.1 173)))
    refine J_iload dX10_safeIn_3 rfl ?_
    refine J_bipush (x := nI 64) dX10_safeIn_5 (by decide) ?_
    refine J_icmp_geN dX10_safeIn_7 (by omega) (by omega) (fun c13 => ?_) (fun c13 => ?_)
    · exact (show False by omega).elim
    · refine J_aload_n dX10_safeIn_10 rfl ?_
      refine J_getR (r := some 173) dX10_safeIn_11 fX10_59 s158 (fun _ => rfl) ((xRL).trans (g158_32 hG)) ?_
      refine J_iload dX10_safeIn_14 rfl ?_
      refine J_iload dX10_safeIn_16 rfl ?_
      refine J_iload_n dX10_safeIn_18 rfl ?_
      refine J_icmp_neN dX10_safeIn_19 (by omega) (by omega) (fun c14 => ?_) (fun c14 => ?_)
      · refine J_lconst (x := 0) dX10_safeIn_26 rfl ?_
        refine J_lastN dX10_safeIn_27 s173 (by decide) (by omega) ?_
        refine J_iincN (n := 1) (L' := [some (pR (some 158)), some (pI (nI t)), some (pI (nI q)), some (pI (nI w)), some (pI (nI (i + 1))), none, none]) dX10_safeIn_28 rfl (by decide) rfl ?_
        refine J_goto dX10_safeIn_31 ?_
        refine J_h (h' := wL h0 173 (fil (fun j => lN (if j = q then 1 else 0)) (i + 1) (h0.2.1 173))) (fil_stL (by simp [*]; try rfl)) ?_
        exact ih
      · refine J_lconst (x := 1) dX10_safeIn_22 rfl ?_
        refine J_goto dX10_safeIn_23 ?_
        refine J_lastN dX10_safeIn_27 s173 (by decide) (by omega) ?_
        refine J_iincN (n := 1) (L' := [some (pR (some 158)), some (pI (nI t)), some (pI (nI q)), some (pI (nI w)), some (pI (nI (i + 1))), none, none]) dX10_safeIn_28 rfl (by decide) rfl ?_
        refine J_goto dX10_safeIn_31 ?_
        refine J_h (h' := wL h0 173 (fil (fun j => lN (if j = q then 1 else 0)) (i + 1) (h0.2.1 173))) (fil_stL (by simp [*]; try rfl)) ?_
        exact ih
theorem c_X10_safeOf {h0 : PH} {t q W rk rl so n : Nat} {x : Nat → Nat} {u : Nat → Nat → Nat} (hG0 : GR h0.2.2) (ht : t < 4) (hT0 : TM h0 t rk rl so) (hW : h0.1 160 0 = nI W) (bW : W ≤ 5) (hn0 : h0.1 160 2 = nI n) (bn : n ≤ 4) (hx : ∀ w, w < n → h0.1 164 (4 * w) = nI (x w) ∧ x w ≤ 10) (hU : ∀ w, w < n → WM h0 t w (u w)) (bq : q < 60) : CtL mX10_safeOf h0 [pR (some 158), pI (nI t), pI (nI q)] (fun v h' => v = sL64 (fun w => lN (x w) * sL64 (fun s => lN (DF rk rl so (u w) q W s)) 64) n ∧ FG h0 h') := by
  refine Ct.of (L := [some (pR (some 158)), some (pI (nI t)), some (pI (nI q)), none, none, none]) rfl rfl (Nat.le_of_ble_eq_true rfl) rfl ?_
  refine J_lconst (x := 0) dX10_safeOf_0 rfl ?_
  refine J_lstore_n (L' := [some (pR (some 158)), some (pI (nI t)), some (pI (nI q)), some (pL 0), none, none]) dX10_safeOf_1 (by decide) rfl ?_
  refine J_iconstN (n := 0) dX10_safeOf_2 ?_
  refine J_istore (L' := [some (pR (some 158)), some (pI (nI t)), some (pI (nI q)), some (pL 0), none, some (pI (nI 0))]) dX10_safeOf_3 (by decide) rfl ?_
  refine J_L (L' := [some (pR (some 158)), some (pI (nI t)), some (pI (nI q)), some (pL (sL64 (fun w => lN (x w) * sL64 (fun s => lN (DF rk rl so (u w) q W s)) 64) 0)), none, some (pI (nI 0))]) rfl ?_
  refine J_forI (α := Unit) (L := fun i aa => [some (pR (some 158)), some (pI (nI t)), some (pI (nI q)), some (pL (sL64 (fun w => lN (x w) * sL64 (fun s => lN (DF rk rl so (u w) q W s)) 64) i)), none, some (pI (nI i))]) (fun i aa h => FG h0 h) (e := n) (fun aa h hI => ?_) (fun i aa h hi hI ih => ?_) 0 (()) _ (by omega) (FG.rf)
  · show J _ _ _ _ _ [some (pR (some 158)), some (pI (nI t)), some (pI (nI q)), some (pL (sL64 (fun w => lN (x w) * sL64 (fun s => lN (DF rk rl so (u w) q W s)) 64) n)), none, some (pI (nI n))] _ _ h
    have hG := hI.g hG0
    have hn := (hI.i (by decide) (by decide) (by decide) (by decide)).trans hn0
    refine J_iload dX10_safeOf_5 rfl ?_
    refine J_aload_n dX10_safeOf_7 rfl ?_
    refine J_getR (r := some 160) dX10_safeOf_8 fX10_17 s158 (fun _ => rfl) (g158_12 hG) ?_
    refine J_iconstN (n := 2) dX10_safeOf_11 ?_
    refine J_ialdN dX10_safeOf_12 s160 (by decide) (by omega) ?_
    refine J_cvI (hn) ?_
    refine J_icmp_geN dX10_safeOf_13 (by omega) (by omega) (fun c1 => ?_) (fun c1 => ?_)
    · refine J_lload_n dX10_safeOf_41 rfl ?_
      exact J_retL dX10_safeOf_42 rfl ⟨rfl, hI⟩
    · exact (show False by omega).elim
  · show J _ _ _ _ _ [some (pR (some 158)), some (pI (nI t)), some (pI (nI q)), some (pL (sL64 (fun w => lN (x w) * sL64 (fun s => lN (DF rk rl so (u w) q W s)) 64) i)), none, some (pI (nI i))] _ _ h
    have hG := hI.g hG0
    have hn := (hI.i (by decide) (by decide) (by decide) (by decide)).trans hn0
    have bx := (hx i hi).2
    refine J_iload dX10_safeOf_5 rfl ?_
    refine J_aload_n dX10_safeOf_7 rfl ?_
    refine J_getR (r := some 160) dX10_safeOf_8 fX10_17 s158 (fun _ => rfl) (g158_12 hG) ?_
    refine J_iconstN (n := 2) dX10_safeOf_11 ?_
    refine J_ialdN dX10_safeOf_12 s160 (by decide) (by omega) ?_
    refine J_cvI (hn) ?_
    refine J_icmp_geN dX10_safeOf_13 (by omega) (by omega) (fun c2 => ?_) (fun c2 => ?_)
    · exact (show False by omega).elim
    · refine J_lload_n dX10_safeOf_16 rfl ?_
      refine J_aload_n dX10_safeOf_17 rfl ?_
      refine J_iload dX10_safeOf_18 rfl ?_
      refine J_cVI (ci := 10) (c := 158) (as := [pI (nI i)]) (st := [pL (sL64 (fun w => lN (x w) * sL64 (fun s => lN (DF rk rl so (u w) q W s)) 64) i)]) dX10_safeOf_20 lX10_240 okX10_weight vX10_weight s158 (by decide) rfl rfl rfl (Nat.le_of_ble_eq_true rfl) ⟨Nat.le_of_ble_eq_true rfl, Nat.le_of_ble_eq_true rfl⟩ CR.f (c_X10_weight hG (by omega) ((hI.i (by decide) (by decide) (by decide) (by decide)).trans (hx i hi).1)) (fun vq3 gq3 eq3 => ?_)
      obtain ⟨rfl, fq3⟩ := eq3
      rw [fq3]
      refine J_i2lN dX10_safeOf_23 (by omega) ?_
      refine J_aload_n dX10_safeOf_24 rfl ?_
      refine J_iload_n dX10_safeOf_25 rfl ?_
      refine J_iload_n dX10_safeOf_26 rfl ?_
      refine J_iload dX10_safeOf_27 rfl ?_
      refine J_cVL (ci := 10) (c := 158) (as := [pI (nI t), pI (nI q), pI (nI i)]) (st := [pL (lN (x i)), pL (sL64 (fun w => lN (x w) * sL64 (fun s => lN (DF rk rl so (u w) q W s)) 64) i)]) dX10_safeOf_29 lX10_325 okX10_safeIn vX10_safeIn s158 (by decide) rfl rfl rfl (Nat.le_of_ble_eq_true rfl) ⟨Nat.le_of_ble_eq_true rfl, Nat.le_of_ble_eq_true rfl⟩ CR.f (c_X10_safeIn (u := u i) hG ht (by omega) (hT0.fg hI) ((hU i hi).fg hI) ((hI.i (by decide) (by decide) (by decide) (by decide)).trans hW) bW bq) (fun v7 g7 e7 => ?_)
      obtain ⟨rfl, z2⟩ := e7
      refine J_lmul dX10_safeOf_32 ?_
      refine J_ladd dX10_safeOf_33 ?_
      refine J_lstore_n (L' := [some (pR (some 158)), some (pI (nI t)), some (pI (nI q)), some (pL ((sL64 (fun w => lN (x w) * sL64 (fun s => lN (DF rk rl so (u w) q W s)) 64) i) + ((lN (x i)) * (sL64 (fun s => lN (DF rk rl so (u i) q W s)) 64)))), none, some (pI (nI i))]) dX10_safeOf_34 (by decide) rfl ?_
      refine J_iincN (n := 1) (L' := [some (pR (some 158)), some (pI (nI t)), some (pI (nI q)), some (pL ((sL64 (fun w => lN (x w) * sL64 (fun s => lN (DF rk rl so (u w) q W s)) 64) i) + ((lN (x i)) * (sL64 (fun s => lN (DF rk rl so (u i) q W s)) 64)))), none, some (pI (nI (i + 1)))]) dX10_safeOf_35 rfl (by decide) rfl ?_
      refine J_goto dX10_safeOf_38 ?_
      refine J_L (L' := [some (pR (some 158)), some (pI (nI t)), some (pI (nI q)), some (pL (sL64 (fun w => lN (x w) * sL64 (fun s => lN (DF rk rl so (u w) q W s)) 64) (i + 1))), none, some (pI (nI (i + 1)))]) rfl ?_
      exact ih () _ (hI.tr z2)
