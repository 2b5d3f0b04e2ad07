section SX
variable {s : State} {a0 : Array Value}
theorem ac_of {ty : FieldType} (h : (Cond.arrayClass ty).before a0 s = true) : ∃ cA, ArrOfT s cA ty ∧ s.vm.findClass ("[" ++ ty.toString) = some cA := by
  obtain ⟨cA, kA, comp, h1, h2, h3⟩ := Cond.arrayClass_spec h
  exact ⟨cA, fun N z => ⟨(fun k h => by cases h), kA, h2, comp, h3⟩, h1⟩
theorem ao_of {C : String} (h : (Cond.arrayOver (.object C)).before a0 s = true) : ∃ cA, ArrOfT s cA (.object C) ∧ va_RA s cA (.object C) := by
  obtain ⟨comp, c, k, h1, h2, h3, h4, h5⟩ := Cond.arrayOver_spec h
  exact ⟨c, fun N z => ⟨(fun k h => by cases h), k, h3, comp, h4⟩, k, comp, h3, h4, h1, h5⟩
theorem aa_of {t : FieldType} (h : (Cond.arrayOver (.array t)).before a0 s = true) : ∃ cA, ArrOfT s cA (.array t) ∧ va_RA s cA (.array t) := by
  obtain ⟨comp, c, k, h1, h2, h3, h4, h5⟩ := arrayOverA_spec h
  exact ⟨c, fun N z => ⟨(fun k h => by cases h), k, h3, comp, h4⟩, h5⟩
theorem start_A (hts : ∀ w ∈ lw_tbl, w.before a0 s = true) : ∀ k : Nat, k < 9 → ∃ cA, ArrOfT s cA (tyK k) ∧ va_RA s cA (tyK k) := by
  intro k hk
  rcases (show k = 0 ∨ k = 1 ∨ k = 2 ∨ k = 3 ∨ k = 4 ∨ k = 5 ∨ k = 6 ∨ k = 7 ∨ k = 8 by omega) with rfl | rfl | rfl | rfl | rfl | rfl | rfl | rfl | rfl
  · exact ac_of (ty := .int) (hts _ (List.mem_of_getElem? (i := 227) (by decide +kernel)))
  · exact ac_of (ty := .byte) (hts _ (List.mem_of_getElem? (i := 225) (by decide +kernel)))
  · exact ac_of (ty := .boolean) (hts _ (List.mem_of_getElem? (i := 228) (by decide +kernel)))
  · exact ac_of (ty := .long) (hts _ (List.mem_of_getElem? (i := 226) (by decide +kernel)))
  · exact ao_of (C := "LastBoat$Thing") (hts _ (List.mem_of_getElem? (i := 145) (by decide +kernel)))
  · exact ao_of (C := "LastBoat$Family") (hts _ (List.mem_of_getElem? (i := 147) (by decide +kernel)))
  · exact ao_of (C := "LastBoat$Run") (hts _ (List.mem_of_getElem? (i := 552) (by decide +kernel)))
  · exact aa_of (t := .int) (hts _ (List.mem_of_getElem? (i := 143) (by decide +kernel)))
  · exact aa_of (t := .long) (hts _ (List.mem_of_getElem? (i := 499) (by decide +kernel)))
theorem start_C (hts : ∀ w ∈ lw_g, w.before a0 s = true) : ∃ D : va_G, ∀ (c : Nat) (q : vw_C), vwCl[c]? = some q → u_Kn s q.1 q.2.1 q.2.2 (D.1 c) (D.2 c) := by
  have h0 : ∀ ci : Nat, ∃ q : ClassId × (Nat → Nat), ci < 11 → u_Kn s (clR ci) (clT ci) (clN ci) q.1 q.2 := by
    intro ci
    by_cases hc : ci < 11
    · obtain ⟨c, i, h⟩ := u_known hts (cl_in hc) (hts _ (cl_inst hc))
      exact ⟨(c, i), fun _ => h⟩
    · exact ⟨(0, fun _ => 0), fun q => absurd q hc⟩
  obtain ⟨f, hf⟩ := Classical.axiomOfChoice h0
  refine ⟨(fun c => (f c).1, fun c => (f c).2), fun c q hq => ?_⟩
  by_cases hc : c < 11
  · rw [vwCl_at hc] at hq
    cases hq
    exact hf c hc
  · have e : vwCl[c]? = none := List.getElem?_eq_none (by have : vwCl.length = 11 := rfl; omega)
    rw [e] at hq
    cases hq
theorem start_K (hts : ∀ w ∈ lw_tbl, w.before a0 s = true) (b : Nat) (ad : Nat → Nat) : ∃ (D : va_G) (g : Nat → ClassId), va_K D vwCl (TYs (b, ad, D, g)) s := by
  obtain ⟨D, hD⟩ := start_C (a0 := a0) (fun w hw => hts w (List.mem_filter.mp hw).1)
  have h0 : ∀ k : Nat, ∃ c : ClassId, k < 9 → ArrOfT s c (tyK k) ∧ va_RA s c (tyK k) := by
    intro k
    by_cases hk : k < 9
    · obtain ⟨c, h⟩ := start_A hts k hk
      exact ⟨c, fun _ => h⟩
    · exact ⟨0, fun q => absurd q hk⟩
  obtain ⟨g, hg⟩ := Classical.axiomOfChoice h0
  refine ⟨D, g, hD, fun k q hq => ?_⟩
  by_cases hk : k < 9
  · rw [TYs_at (b, ad, D, g) hk] at hq
    cases hq
    exact hg k hk
  · have e : (TYs (b, ad, D, g))[k]? = none := List.getElem?_eq_none (by have : (TYs (b, ad, D, g)).length = 9 := rfl; omega)
    rw [e] at hq
    cases hq
def adX (k v : Nat → Nat) (l m t b : Nat) (i : Nat) : Nat := if i < 14 then k i else if i < 28 then v (i - 14) else if i = 28 then l else if i = 29 then m else if i = 30 then t else b
theorem adX_k {k v : Nat → Nat} {l m t b i : Nat} (h : i < 14) : adX k v l m t b i = k i := if_pos h
theorem adX_v {k v : Nat → Nat} {l m t b i : Nat} (h : i < 14) : adX k v l m t b (14 + i) = v i := by
  unfold adX
  rw [if_neg (by omega), if_pos (by omega), show 14 + i - 14 = i by omega]
theorem start_X {b : Nat} (hts : ∀ w ∈ lw_tbl, w.before a0 s = true) (hgv : TG.before a0 s = true) : ∃ X : Cx, X.1 = s.heap.size ∧ X.2.1 31 = b ∧ va_K X.2.2.1 vwCl (TYs X) s ∧ EXT X s s.heap := by
  have hs := flat_of_before _ hgv
  have hA : ∀ a : Nat, a < s.heap.size → ¬ (fun q : Nat => s.heap.size ≤ q) a := fun a h => Nat.not_le.mpr h
  obtain ⟨adK, adV, hS, hT⟩ := vk_Sof (N := nJS) (tm := smS) (len := lenJS) (byt := bytJS) (A := fun q : Nat => s.heap.size ≤ q) sg_ln (fun i hi => hs _ (sg_ex i hi)) (fun i hi => hs _ (sg_co i hi)) (fun i hi => hs _ (sg_ar i hi)) (fun i hi => hs _ (sg_le i hi)) (fun i hi j hj => hs _ (sg_el i hi j hj)) (fun i j hi hj hij => by
    by_cases q : i < j
    · exact Or.inl (hs _ (sg_ne j hj i q))
    · exact Or.inr (hs _ (sg_ne i hi j (by omega)))) hA
  obtain ⟨tL, eL, hTL⟩ := va_Tof (tm := .static "LastBoat$Reader" "LEAST" "[I") (ty := .int) (N := 49) (f := fun j => .int (leastT.getD j 0)) (A := fun q : Nat => s.heap.size ≤ q) (by decide) (hs _ (by decide +kernel)) (va_eqt (hs _ (by decide +kernel))) (fun j hj => va_eqt (hs _ (sg_least j hj))) hA
  obtain ⟨tM, eM, hTM⟩ := va_Tof (tm := .static "LastBoat$Reader" "MOST" "[I") (ty := .int) (N := 49) (f := fun j => .int (mostT.getD j 0)) (A := fun q : Nat => s.heap.size ≤ q) (by decide) (hs _ (by decide +kernel)) (va_eqt (hs _ (by decide +kernel))) (fun j hj => va_eqt (hs _ (sg_most j hj))) hA
  have hZL := va_Zof (A := fun q : Nat => s.heap.size ≤ q) (hts _ (List.mem_of_getElem? (i := 734) (by decide +kernel))) (hts _ (List.mem_of_getElem? (i := 115) (by decide +kernel))) eL hA
  have hZM := va_Zof (A := fun q : Nat => s.heap.size ≤ q) (hts _ (List.mem_of_getElem? (i := 736) (by decide +kernel))) (hts _ (List.mem_of_getElem? (i := 115) (by decide +kernel))) eM hA
  have hZC := va_Zof (C := "java/lang/String") (n := "COMPACT_STRINGS") (d := "Z") (A := fun q : Nat => s.heap.size ≤ q) (hts _ (List.mem_of_getElem? (i := 673) (by decide +kernel))) (hts _ (List.mem_of_getElem? (i := 122) (by decide +kernel))) (va_eqi (z := 1) (hs _ (by decide +kernel))) hA
  have hZS : ∃ t : Nat, va_Z "jdk/internal/util/Preconditions" "SIOOBE_FORMATTER" "Ljava/util/function/BiFunction;" .null (fun q : Nat => s.heap.size ≤ q) s s.heap ∨ va_Z "jdk/internal/util/Preconditions" "SIOOBE_FORMATTER" "Ljava/util/function/BiFunction;" (.ref t) (fun q : Nat => s.heap.size ≤ q) s s.heap := by
    rcases va_Zqof (C := "jdk/internal/util/Preconditions") (n := "SIOOBE_FORMATTER") (d := "Ljava/util/function/BiFunction;") (A := fun q : Nat => s.heap.size ≤ q) (hts _ (List.mem_of_getElem? (i := 689) (by decide +kernel))) (hts _ (List.mem_of_getElem? (i := 124) (by decide +kernel))) (hs _ (by decide +kernel)) hA with h | ⟨t, h⟩
    · exact ⟨0, Or.inl h⟩
    · exact ⟨t, Or.inr h⟩
  obtain ⟨tS, hZS⟩ := hZS
  obtain ⟨D, g, hK⟩ := start_K hts s.heap.size (adX adK adV tL tM tS b)
  refine ⟨(s.heap.size, adX adK adV tL tM tS b, D, g), rfl, rfl, hK, ⟨fun i hi => ?_, fun i j hi hj e => hS.2 i j hi hj ?_⟩, fun i hi => ?_, ⟨hZL, hTL⟩, ⟨hZM, hTM⟩, ⟨hZC, hZS⟩, fun q hq => va_Nw.of rfl (hts _ (sg_nb q hq)), fun t ht => ?_⟩
  · have h := hS.1 i hi
    show va_O "java/lang/String" (adX adK adV tL tM tS b i) _ s s.heap ∧ va_OF "java/lang/String" "coder" "B" (.int 0) (adX adK adV tL tM tS b i) _ s s.heap ∧ va_OF "java/lang/String" "value" "[B" (.ref (adX adK adV tL tM tS b (14 + i))) (adX adK adV tL tM tS b i) _ s s.heap ∧ va_T .byte (adX adK adV tL tM tS b (14 + i)) _ _ _ s s.heap
    rw [adX_k (show i < 14 from hi), adX_v (show i < 14 from hi)]
    exact h
  · have e' : adX adK adV tL tM tS b i = adX adK adV tL tM tS b j := e
    rw [adX_k (show i < 14 from hi), adX_k (show j < 14 from hj)] at e'
    exact e'
  · refine vk_R.of (A := a0) (hts _ (sg_rf i hi)) ?_
    show (smS i).eval a0 s none [] s = some (.ref (adX adK adV tL tM tS b i))
    rw [adX_k (show i < 14 from hi)]
    exact hT i hi
  · exact hts _ (sg_ao t ht)
end SX
/-- from the entry, for every script of at most 3584 ints, the law comes to its end with true -/
theorem whole_start {p : Program} {e : Env} {s : State} {m : MethodId} {below : List Frame} {meth : Method} {c : Code} (l : Launch) {b L : Nat} {xs : Nat → Int32} (hL : L ≤ 3584) (hnm : meth.name = "law") (C0 : lw_At p s m meth c b L xs) : W p l e room_1 s m #[Value.ref b] below meth c s.heap [] 0 0 (lw_Z below #[Value.ref b] s) (entryFrame m ([Value.ref b] : List Value).toArray 4) := by
  obtain ⟨hx, hb, hr, hml, hown, hts, hX, hbl, hlocks, hgv⟩ := C0
  obtain ⟨X, hX1, hX2, hK, hE⟩ := start_X (b := b) hts hgv
  have hC : Ctx mL_law [] X p s m #[Value.ref b] meth c := ⟨hx, hb, hr, hml, hown, fun w hw => hts w (List.mem_filter.mp hw).1, hlocks, hK, hE, Nat.le_of_eq hX1, hnm, Nat.le_trans (Nat.le_of_eq hX1.symm) (Nat.le_add_right _ _)⟩
  have hz : (ZW L xs).2 X s := ⟨by rw [hX2]; exact hX, by rw [hX1, hX2]; exact hbl, hX1⟩
  have hl := LR.ent X [pX 31] (n := 4) (by decide)
  have eR : ([pX 31].map (re X)) = [Value.ref b] := by
    show [Value.ref (X.2.1 31)] = _
    rw [hX2]
  rw [eR] at hl
  have hR : Rep X (SHF.take 0) hp0 s.heap := fun k q hq => absurd hq (by show ¬ (([] : va_W)[k]? = some q); simp)
  have h0 := law_start (Ln := L) (xs := xs) hL X p l e s m #[Value.ref b] below meth c s.heap [] _ hC hz hl hR va_S.rf
  rw [lg_entry_eq]
  intro T hT Xs
  obtain ⟨t, h1, h2⟩ := h0 T hT Xs
  exact ⟨t, h1, h2 (by rw [hX2])⟩
