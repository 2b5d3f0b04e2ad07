/-! ===== the start: what the Statement says of it ===== -/
abbrev TG : Cond := Jvm.Cond.and given_1 narrow_1
theorem cl_inst {ci : Nat} (h : ci < 11) : Cond.instantiable (clR ci) (clN ci) ∈ lw_g := by
  rcases (show ci = 0 ∨ ci = 1 ∨ ci = 2 ∨ ci = 3 ∨ ci = 4 ∨ ci = 5 ∨ ci = 6 ∨ ci = 7 ∨ ci = 8 ∨ ci = 9 ∨ ci = 10 by omega) with rfl | rfl | rfl | rfl | rfl | rfl | rfl | rfl | rfl | rfl | rfl
  · exact lw_inG 229 (by decide +kernel) (by decide +kernel)
  · exact lw_inG 493 (by decide +kernel) (by decide +kernel)
  · exact lw_inG 376 (by decide +kernel) (by decide +kernel)
  · exact lw_inG 469 (by decide +kernel) (by decide +kernel)
  · exact lw_inG 137 (by decide +kernel) (by decide +kernel)
  · exact lw_inG 325 (by decide +kernel) (by decide +kernel)
  · exact lw_inG 517 (by decide +kernel) (by decide +kernel)
  · exact lw_inG 148 (by decide +kernel) (by decide +kernel)
  · exact lw_inG 382 (by decide +kernel) (by decide +kernel)
  · exact lw_inG 129 (by decide +kernel) (by decide +kernel)
  · exact lw_inG 1198 (by decide +kernel) (by decide +kernel)
def smS (i : Nat) : Term := Term.string (ownS i) (idxS i)
theorem sg_ex : ∀ i : Nat, i < nJS → Cond.exactly (smS i) "java/lang/String" ∈ flatC TG := by decide +kernel
theorem sg_co : ∀ i : Nat, i < nJS → Cond.eq (.field (smS i) "java/lang/String" "coder" "B") (.int 0) ∈ flatC TG := by decide +kernel
theorem sg_ar : ∀ i : Nat, i < nJS → Cond.arrayOf (.field (smS i) "java/lang/String" "value" "[B") .byte ∈ flatC TG := by decide +kernel
theorem sg_le : ∀ i : Nat, i < nJS → Cond.eq (.length (.field (smS i) "java/lang/String" "value" "[B")) (.int (Int32.ofNat (lenJS.getD i 0))) ∈ flatC TG := by decide +kernel
theorem sg_el0 : ∀ j : Nat, j < lenJS.getD 0 0 → Cond.eq (.elem (.field (smS 0) "java/lang/String" "value" "[B") (.int (Int32.ofNat j))) (.int ((bytJS.getD 0 []).getD j 0)) ∈ flatC TG := by decide +kernel
theorem sg_el1 : ∀ j : Nat, j < lenJS.getD 1 0 → Cond.eq (.elem (.field (smS 1) "java/lang/String" "value" "[B") (.int (Int32.ofNat j))) (.int ((bytJS.getD 1 []).getD j 0)) ∈ flatC TG := by decide +kernel
theorem sg_el2 : ∀ j : Nat, j < lenJS.getD 2 0 → Cond.eq (.elem (.field (smS 2) "java/lang/String" "value" "[B") (.int (Int32.ofNat j))) (.int ((bytJS.getD 2 []).getD j 0)) ∈ flatC TG := by decide +kernel
theorem sg_el3 : ∀ j : Nat, j < lenJS.getD 3 0 → Cond.eq (.elem (.field (smS 3) "java/lang/String" "value" "[B") (.int (Int32.ofNat j))) (.int ((bytJS.getD 3 []).getD j 0)) ∈ flatC TG := by decide +kernel
theorem sg_el4 : ∀ j : Nat, j < lenJS.getD 4 0 → Cond.eq (.elem (.field (smS 4) "java/lang/String" "value" "[B") (.int (Int32.ofNat j))) (.int ((bytJS.getD 4 []).getD j 0)) ∈ flatC TG := by decide +kernel
theorem sg_el5 : ∀ j : Nat, j < lenJS.getD 5 0 → Cond.eq (.elem (.field (smS 5) "java/lang/String" "value" "[B") (.int (Int32.ofNat j))) (.int ((bytJS.getD 5 []).getD j 0)) ∈ flatC TG := by decide +kernel
theorem sg_el6 : ∀ j : Nat, j < lenJS.getD 6 0 → Cond.eq (.elem (.field (smS 6) "java/lang/String" "value" "[B") (.int (Int32.ofNat j))) (.int ((bytJS.getD 6 []).getD j 0)) ∈ flatC TG := by decide +kernel
theorem sg_el7 : ∀ j : Nat, j < lenJS.getD 7 0 → Cond.eq (.elem (.field (smS 7) "java/lang/String" "value" "[B") (.int (Int32.ofNat j))) (.int ((bytJS.getD 7 []).getD j 0)) ∈ flatC TG := by decide +kernel
theorem sg_el8 : ∀ j : Nat, j < lenJS.getD 8 0 → Cond.eq (.elem (.field (smS 8) "java/lang/String" "value" "[B") (.int (Int32.ofNat j))) (.int ((bytJS.getD 8 []).getD j 0)) ∈ flatC TG := by decide +kernel
theorem sg_el9 : ∀ j : Nat, j < lenJS.getD 9 0 → Cond.eq (.elem (.field (smS 9) "java/lang/String" "value" "[B") (.int (Int32.ofNat j))) (.int ((bytJS.getD 9 []).getD j 0)) ∈ flatC TG := by decide +kernel
theorem sg_el10 : ∀ j : Nat, j < lenJS.getD 10 0 → Cond.eq (.elem (.field (smS 10) "java/lang/String" "value" "[B") (.int (Int32.ofNat j))) (.int ((bytJS.getD 10 []).getD j 0)) ∈ flatC TG := by decide +kernel
theorem sg_el11 : ∀ j : Nat, j < lenJS.getD 11 0 → Cond.eq (.elem (.field (smS 11) "java/lang/String" "value" "[B") (.int (Int32.ofNat j))) (.int ((bytJS.getD 11 []).getD j 0)) ∈ flatC TG := by decide +kernel
theorem sg_el12 : ∀ j : Nat, j < lenJS.getD 12 0 → Cond.eq (.elem (.field (smS 12) "java/lang/String" "value" "[B") (.int (Int32.ofNat j))) (.int ((bytJS.getD 12 []).getD j 0)) ∈ flatC TG := by decide +kernel
theorem sg_el13 : ∀ j : Nat, j < lenJS.getD 13 0 → Cond.eq (.elem (.field (smS 13) "java/lang/String" "value" "[B") (.int (Int32.ofNat j))) (.int ((bytJS.getD 13 []).getD j 0)) ∈ flatC TG := by decide +kernel
theorem sg_el : ∀ i : Nat, i < nJS → ∀ j : Nat, j < lenJS.getD i 0 → Cond.eq (.elem (.field (smS i) "java/lang/String" "value" "[B") (.int (Int32.ofNat j))) (.int ((bytJS.getD i []).getD j 0)) ∈ flatC TG := by
  intro i hi
  have hi : i < 14 := hi
  rcases (show i = 0 ∨ i = 1 ∨ i = 2 ∨ i = 3 ∨ i = 4 ∨ i = 5 ∨ i = 6 ∨ i = 7 ∨ i = 8 ∨ i = 9 ∨ i = 10 ∨ i = 11 ∨ i = 12 ∨ i = 13 by omega) with rfl | rfl | rfl | rfl | rfl | rfl | rfl | rfl | rfl | rfl | rfl | rfl | rfl | rfl
  · exact sg_el0
  · exact sg_el1
  · exact sg_el2
  · exact sg_el3
  · exact sg_el4
  · exact sg_el5
  · exact sg_el6
  · exact sg_el7
  · exact sg_el8
  · exact sg_el9
  · exact sg_el10
  · exact sg_el11
  · exact sg_el12
  · exact sg_el13
theorem sg_ne : ∀ i : Nat, i < nJS → ∀ j : Nat, j < i → Cond.not (Cond.eq (smS j) (smS i)) ∈ flatC TG := by decide +kernel
theorem sg_rf : ∀ i : Nat, i < nJS → Cond.stringRef (ownS i) (idxS i) (txS i) ∈ lw_tbl := by decide +kernel
theorem sg_ln : ∀ i : Nat, i < nJS → lenJS.getD i 0 < 2 ^ 31 := by decide +kernel
theorem sg_least : ∀ j : Nat, j < 49 → Cond.eq (.elem (.static "LastBoat$Reader" "LEAST" "[I") (.int (Int32.ofNat j))) (.int (leastT.getD j 0)) ∈ flatC TG := by decide +kernel
theorem sg_most : ∀ j : Nat, j < 49 → Cond.eq (.elem (.static "LastBoat$Reader" "MOST" "[I") (.int (Int32.ofNat j))) (.int (mostT.getD j 0)) ∈ flatC TG := by decide +kernel
theorem sg_nb : ∀ q ∈ nbL, Cond.methodLinkNest q.1 q.2.1 q.2.2.1 q.2.2.2 ∈ lw_tbl := by decide +kernel
theorem sg_ao : ∀ t ∈ aoL, Cond.arrayOver t ∈ lw_tbl := by decide +kernel
