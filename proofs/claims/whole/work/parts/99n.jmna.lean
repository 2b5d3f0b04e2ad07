/-! ===== rows of rows, in cells ===== -/
/-- N rows at n: the outer array, its rows behind it -/
def mz (h : PH) (n N : Nat) : PH := (fun c => if n ≤ c ∧ c ≤ n + N then (fun _ => 0) else h.1 c, fun c => if n ≤ c ∧ c ≤ n + N then (fun _ => 0) else h.2.1 c, fun c => if c = n then (fun j => if j < N then some (n + 1 + j) else none) else if n ≤ c ∧ c ≤ n + N then (fun _ => none) else h.2.2 c)
theorem mz_o {h : PH} {n N c : Nat} (hc : c < n) : (mz h n N).1 c = h.1 c ∧ (mz h n N).2.1 c = h.2.1 c ∧ (mz h n N).2.2 c = h.2.2 c := by
  refine ⟨if_neg (by omega), if_neg (by omega), ?_⟩
  show (if c = n then _ else if n ≤ c ∧ c ≤ n + N then _ else h.2.2 c) = h.2.2 c
  rw [if_neg (by omega), if_neg (by omega)]
theorem fvl_mz {base : Nat} {ty : FieldType} {h : PH} {n N c k : Nat} (hc : c < n) : fvl base ty (mz h n N) c k = fvl base ty h c k := by
  obtain ⟨e1, e2, e3⟩ := mz_o (h := h) (N := N) hc
  cases ty <;> simp only [fvl, e1, e2, e3]
theorem toE_mz {X : Cx} {s : Nat ⊕ (Nat × Nat)} {h : PH} {n N c : Nat} (hc : c < n) : toE X s (mz h n N) c = toE X s h c := by
  obtain ⟨e1, e2, e3⟩ := mz_o (h := h) (N := N) hc
  rcases s with ci | ⟨kd, w⟩
  · simp only [toE, fvl_mz hc]
  · simp only [toE, arE, e1, e2, e3]
theorem TK_rows {n N K kd kr : Nat} (hs : SHF[n]? = some (.inr (kd, N))) (hw : ∀ j, j < N → SHF[n + 1 + j]? = some (.inr (kr, K))) : ∀ j, j ≤ N → ssz (SHF.take (n + 1 + j)) = ssz (SHF.take n) + N + j * K
  | 0, _ => by
    rw [Nat.zero_mul]
    exact TK_z hs
  | j + 1, h => by
    have ih := TK_rows hs hw j (by omega)
    have z := TK_z (hw j (by omega))
    rw [Nat.succ_mul]
    show ssz (SHF.take (n + 1 + j + 1)) = _
    rw [z, ih]
    show ssz (SHF.take n) + N + j * K + K = _
    omega
theorem arr_name {X : Cx} {s : State} {cA : ClassId} {kd : Nat} (hkd : kd < 9) (hK : va_K X.2.2.1 vwCl (TYs X) s) {t : FieldType} (ht : tyK kd = t) (hno : ∀ C, t ≠ .object C) (h : s.vm.findClass ("[" ++ t.toString) = some cA) : cA = X.2.2.2 kd := by
  have h1 := (hK.2 kd _ (TYs_at X hkd)).2
  revert h1
  show va_RA s (X.2.2.2 kd) (tyK kd) → _
  rw [ht]
  cases t with
  | object C => exact absurd rfl (hno C)
  | _ => exact fun a => Option.some.inj (h.symm.trans a)
section JM
variable {M : MD} {R : Room} {sh0 : SH} {Z : ZT} {pc nx : Nat} {L : List (Option PV)} {st : List PV} {h : PH}
theorem J_mna {i kd kr n N K : Nat} {ty : FieldType} (hd : DI M pc (.multianewarray i 2) 4 nx) (hkd : (kd = 7 ∧ kr = 0 ∧ ty = .int) ∨ (kd = 8 ∧ kr = 3 ∧ ty = .long)) (hcl : Cond.classLink (mown M) i ("[" ++ (FieldType.array ty).toString) ∈ lw_g) (hao : FieldType.array ty ∈ aoL) (har : Cond.arrayClass ty ∈ lw_g) (hN : 0 < N ∧ N ≤ 1000) (hK : K ≤ 1000) (h0n : 0 < n) (hs : SHF[n]? = some (.inr (kd, N))) (hw : ∀ j, j < N → SHF[n + 1 + j]? = some (.inr (kr, K))) (hr0 : NR R sh0 n (n + 1 + N)) (kk : J M R sh0 Z nx L (pR (some n) :: st) (SHF.take (n + 1 + N)) (mz h n N)) : J M R sh0 Z pc L (pI (nI K) :: pI (nI N) :: st) (SHF.take n) h := by
  intro X p l e s m args below meth cd H locs ls C z hl hr hS
  obtain ⟨hd, rfl⟩ := hd
  obtain ⟨⟨r0, r1⟩, r2, r3⟩ := hr0
  have hn : n + 1 + N ≤ 187 := by
    have := (List.getElem?_eq_some_iff.mp (hw (N - 1) (by omega))).1
    have e : SHF.length = 187 := rfl
    omega
  have eL := TK_len (n := n) (by omega)
  have eL' := TK_len hn
  have eZ := TK_rows hs hw N (Nat.le_refl _)
  have hts := C.2.2.2.2.2.1
  have hKs := C.2.2.2.2.2.2.2.1
  have hX1 := C.2.2.2.2.2.2.2.2.2.1
  have nn : ∀ z : Nat, z ≤ 1000 → ¬ nI z < 0 := fun z hz => by rw [Int32.lt_iff_toInt_lt, nI_toInt (by omega)]; show ¬ (z : Int) < 0; omega
  intro T hT Xs
  have hup : T.heap.size ≤ X.1 + n := by
    have h1 := Xs.heapSize
    have h2 := C.2.2.2.2.2.2.2.2.2.2.2
    rw [eL] at h1
    omega
  have hlo : X.1 + n ≤ T.heap.size := by
    have hc : n - 1 < (SHF.take n).length := by omega
    have y := (hr _ _ (toW_at (X := X) (h := h) (List.getElem?_eq_getElem hc))).lt
    rw [← hT] at y
    have y' : X.1 + (n - 1) < T.heap.size := y
    omega
  have hsz : T.heap.size = X.1 + n := by omega
  refine mn_step (ty := ty) (N := N) (K := K) (own := mown M) (rest := st.map (re X)) Xs C.1 C.2.2.2.2.1 (hts _ hcl) (C.2.2.2.2.2.2.2.2.1.2.2.2.2.2.2 _ hao) (hts _ har) rfl (nI_clamp (by omega)) (by
    have y : nI N ≠ 0 := nI_ne0 hN.1 (by omega)
    simpa using y) (nn N hN.2) (nI_clamp (by omega)) (nn K hK) (by omega) (by omega) (by rcases hkd with ⟨-, -, rfl⟩ | ⟨-, -, rfl⟩ <;> decide) (by rcases hkd with ⟨-, -, rfl⟩ | ⟨-, -, rfl⟩ <;> rfl) (by rw [eL]; omega) (by omega) rfl (by rw [C.2.1]; exact hd) (fun T1 cA cB hA hB X1 z1 a1 a2 a3 => ?_)
  have hA' : cA = X.2.2.2 kd := by
    rcases hkd with ⟨rfl, -, rfl⟩ | ⟨rfl, -, rfl⟩
    · exact arr_name (by decide) hKs (t := .array .int) rfl (fun C y => by cases y) hA
    · exact arr_name (by decide) hKs (t := .array .long) rfl (fun C y => by cases y) hA
  have hB' : cB = X.2.2.2 kr := by
    rcases hkd with ⟨-, rfl, rfl⟩ | ⟨-, rfl, rfl⟩
    · exact arr_name (by decide) hKs (t := .int) rfl (fun C y => by cases y) hB
    · exact arr_name (by decide) hKs (t := .long) rfl (fun C y => by cases y) hB
  subst hA'
  subst hB'
  rw [hsz] at z1 a1 a2 a3 X1
  have hrep : Rep X (SHF.take (n + 1 + N)) (mz h n N) T1.heap := by
    intro k q hk
    unfold toW at hk
    rw [List.getElem?_mapIdx] at hk
    cases e1 : (SHF.take (n + 1 + N))[k]? with
    | none => rw [e1] at hk; cases hk
    | some a =>
      rw [e1] at hk
      cases hk
      have hkl := (List.getElem?_eq_some_iff.mp e1).1
      rw [eL'] at hkl
      have e2 : SHF[k]? = some a := by
        rw [List.getElem?_take] at e1
        rw [if_pos hkl] at e1
        exact e1
      by_cases g1 : k < n
      · have e3 : (SHF.take n)[k]? = some a := by
          rw [List.getElem?_take, if_pos g1]
          exact e2
        show va_at _ _ (X.1 + k, toE X a (mz h n N) k) _
        rw [toE_mz g1]
        exact (hr _ _ (toW_at e3)).kept (by rw [← hT]; exact a3 (X.1 + k) (by omega))
      · by_cases g2 : k = n
        · subst g2
          rw [hs] at e2
          cases e2
          have e4 : toE X (.inr (kd, N)) (mz h k N) k = .inl (X.2.2.2 kd, N, .inr (.inr (.inr (.inr (fun i => (if i < N then some (k + 1 + i) else none).map (fun q => X.1 + q)))))) := by
            simp only [toE, arE]
            rw [if_neg (by omega), if_neg (by omega)]
            simp [mz]
          show va_at _ _ (X.1 + k, toE X (.inr (kd, N)) (mz h k N) k) _
          rw [e4]
          show T1.heap[X.1 + k]? = some (vp_cell _ _)
          rw [a1, vp_cell_q]
          unfold mnA
          congr 2
          funext j
          by_cases y : j < N
          · rw [if_pos y, if_pos y]
            show Value.ref (X.1 + k + 1 + j) = Value.ref (X.1 + (k + 1 + j))
            rw [show X.1 + k + 1 + j = X.1 + (k + 1 + j) by omega]
          · rw [if_neg y, if_neg y]
            rfl
        · have e5 := hw (k - (n + 1)) (by omega)
          rw [show n + 1 + (k - (n + 1)) = k by omega, e2] at e5
          cases e5
          have y := a2 (k - (n + 1)) (by omega)
          rw [show X.1 + n + 1 + (k - (n + 1)) = X.1 + k by omega] at y
          have hin : n ≤ k ∧ k ≤ n + N := by omega
          show va_at _ _ (X.1 + k, toE X (.inr (kr, K)) (mz h n N) k) _
          rcases hkd with ⟨-, rfl, rfl⟩ | ⟨-, rfl, rfl⟩
          · have e6 : toE X (.inr (0, K)) (mz h n N) k = .inl (X.2.2.2 0, K, .inl (fun _ => 0)) := by
              simp [toE, arE, mz, hin]
            rw [e6]
            exact y
          · have e6 : toE X (.inr (3, K)) (mz h n N) k = .inl (X.2.2.2 3, K, .inr (.inl (fun _ => 0))) := by
              simp [toE, arE, mz, hin]
            rw [e6]
            exact y
  have hS1 : va_S (AA X) s.heap T1.heap (locs ++ (List.range N).map (fun j => ⟨X.1 + n, j⟩)) := by
    refine ⟨by have := hS.1; rw [← hT] at this; omega, fun q h1 h2 => ?_, fun q hq => ?_⟩
    · have := hS.1
      rw [← hT] at this
      rw [a3 q (by omega)]
      have y := hS.2.1 q h1 h2
      rw [← hT] at y
      exact y
    · rcases List.mem_append.mp hq with y | y
      · exact hS.2.2 q y
      · obtain ⟨j, -, rfl⟩ := List.mem_map.mp y
        show X.1 ≤ X.1 + n
        omega
  rw [eL, show n - sh0.length + 1 + N = (SHF.take (n + 1 + N)).length - sh0.length by rw [eL']; omega, show ssz (SHF.take n) - ssz sh0 + N + N * K = ssz (SHF.take (n + 1 + N)) - ssz sh0 by omega] at X1
  obtain ⟨t, b1, b2⟩ := kk X p l e s m args below meth cd T1.heap _ ls C z hl hrep hS1 T1 rfl X1
  refine ⟨t, ?_, b2⟩
  rw [hsz]
  exact b1
end JM
