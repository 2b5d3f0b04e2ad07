/-! ===== THE PURE MACHINE: values, cells, heaps ===== -/
abbrev PV : Type := Int32 ⊕ (Int64 ⊕ (Option Nat ⊕ Nat))
abbrev pI (x : Int32) : PV := .inl x
abbrev pL (x : Int64) : PV := .inr (.inl x)
abbrev pR (c : Option Nat) : PV := .inr (.inr (.inl c))
abbrev pX (e : Nat) : PV := .inr (.inr (.inr e))
/-- a world's fixed points: the first own address, the addresses of what is outside, class numbers and slots, array classes -/
abbrev Cx : Type := Nat × (Nat → Nat) × va_G × (Nat → ClassId)
def re (X : Cx) : PV → Value
  | .inl x => .int x
  | .inr (.inl x) => .long x
  | .inr (.inr (.inl c)) => va_rf (c.map (fun q => X.1 + q))
  | .inr (.inr (.inr e)) => .ref (X.2.1 e)
def pcat : PV → Nat
  | .inr (.inl _) => 2
  | _ => 1
theorem re_cat (X : Cx) (v : PV) : (re X v).category = pcat v := by
  rcases v with x | x | c | e
  · rfl
  · rfl
  · cases c <;> rfl
  · rfl
/-- a cell's shape: an object of a class (its number in vwCl), or an array (its kind, its length) -/
abbrev SH : Type := List (Nat ⊕ (Nat × Nat))
/-- what the cells hold: ints (and booleans, bytes), longs, references -/
abbrev PH : Type := (Nat → Nat → Int32) × (Nat → Nat → Int64) × (Nat → Nat → Option Nat)
def tyK : Nat → FieldType
  | 0 => .int
  | 1 => .byte
  | 2 => .boolean
  | 3 => .long
  | 4 => .object "LastBoat$Thing"
  | 5 => .object "LastBoat$Family"
  | 6 => .object "LastBoat$Run"
  | 7 => .array .int
  | _ => .array .long
def TYs (X : Cx) : List (ClassId × FieldType) := (List.range 9).map (fun k => (X.2.2.2 k, tyK k))
theorem TYs_at (X : Cx) {k : Nat} (h : k < 9) : (TYs X)[k]? = some (X.2.2.2 k, tyK k) := by
  unfold TYs
  rw [List.getElem?_map, List.getElem?_range h]
  rfl
def clTy : Nat → Nat → FieldType
  | 0 => tyX0
  | 1 => tyX1
  | 2 => tyX2
  | 3 => tyX3
  | 4 => tyX4
  | 5 => tyX5
  | 6 => tyX6
  | 7 => tyX7
  | 8 => tyX8
  | 9 => tyX9
  | _ => tyX10
def clN : Nat → Nat
  | 0 => 3
  | 1 => 4
  | 2 => 16
  | 3 => 5
  | 4 => 12
  | 5 => 14
  | 6 => 7
  | 7 => 12
  | 8 => 5
  | 9 => 11
  | _ => 51
def fvl (base : Nat) (ty : FieldType) (h : PH) (c k : Nat) : Value := match ty with
  | .long => .long (h.2.1 c k)
  | .object _ => va_rf ((h.2.2 c k).map (fun q => base + q))
  | .array _ => va_rf ((h.2.2 c k).map (fun q => base + q))
  | _ => .int (h.1 c k)
def arE (base kd : Nat) (h : PH) (c : Nat) : (Nat → Int32) ⊕ (Nat → Int64) ⊕ (Nat → UInt32) ⊕ (Nat → UInt64) ⊕ (Nat → Option Nat) :=
  if kd < 3 then .inl (h.1 c) else if kd = 3 then .inr (.inl (h.2.1 c)) else .inr (.inr (.inr (.inr (fun i => (h.2.2 c i).map (fun q => base + q)))))
def toE (X : Cx) (s : Nat ⊕ (Nat × Nat)) (h : PH) (c : Nat) : va_E := match s with
  | .inl ci => .inr (ci, (List.range (clN ci)).map (fun k => fvl X.1 (clTy ci k) h c k))
  | .inr (kd, n) => .inl (X.2.2.2 kd, n, arE X.1 kd h c)
def toW (X : Cx) (sh : SH) (h : PH) : va_W := sh.mapIdx (fun c s => (X.1 + c, toE X s h c))
theorem toW_at {X : Cx} {sh : SH} {h : PH} {c : Nat} {s : Nat ⊕ (Nat × Nat)} (hc : sh[c]? = some s) : (toW X sh h)[c]? = some (X.1 + c, toE X s h c) := by
  unfold toW
  rw [List.getElem?_mapIdx, hc]
  rfl
theorem toW_len {X : Cx} {sh : SH} {h : PH} : (toW X sh h).length = sh.length := by
  unfold toW
  rw [List.length_mapIdx]
def Rep (X : Cx) (sh : SH) (h : PH) (H : Heap) : Prop := va_P X.2.2.1 vwCl (toW X sh h) H
abbrev AA (X : Cx) : Nat → Prop := fun q => X.1 ≤ q
theorem toW_D (X : Cx) (sh : SH) (h : PH) : va_D (AA X) (toW X sh h) := by
  refine ⟨fun i j p q hi hj e => ?_, fun k q hk => ?_⟩
  · unfold toW at hi hj
    rw [List.getElem?_mapIdx] at hi hj
    cases h1 : sh[i]? with
    | none => rw [h1] at hi; cases hi
    | some a =>
      cases h2 : sh[j]? with
      | none => rw [h2] at hj; cases hj
      | some b =>
        rw [h1] at hi
        rw [h2] at hj
        cases hi
        cases hj
        exact Nat.add_left_cancel e
  · unfold toW at hk
    rw [List.getElem?_mapIdx] at hk
    cases h1 : sh[k]? with
    | none => rw [h1] at hk; cases hk
    | some a =>
      rw [h1] at hk
      cases hk
      exact Nat.le_add_right _ _
/-- the words' slots of a shape -/
def ssz1 : Nat ⊕ (Nat × Nat) → Nat
  | .inl ci => clN ci
  | .inr (_, n) => n
def ssz (sh : SH) : Nat := (sh.map ssz1).sum
theorem ssz_app (a b : SH) : ssz (a ++ b) = ssz a + ssz b := by
  unfold ssz
  rw [List.map_append, List.sum_append]
/-! ===== writes ===== -/
def up2 {α : Type} (f : Nat → Nat → α) (c : Nat) (g : Nat → α) : Nat → Nat → α := fun a => if a = c then g else f a
def wI (h : PH) (c : Nat) (g : Nat → Int32) : PH := (up2 h.1 c g, h.2.1, h.2.2)
def wL (h : PH) (c : Nat) (g : Nat → Int64) : PH := (h.1, up2 h.2.1 c g, h.2.2)
def wR (h : PH) (c : Nat) (g : Nat → Option Nat) : PH := (h.1, h.2.1, up2 h.2.2 c g)
abbrev sI (h : PH) (c k : Nat) (x : Int32) : PH := wI h c (upd (h.1 c) k x)
abbrev sL (h : PH) (c k : Nat) (x : Int64) : PH := wL h c (vp_updL (h.2.1 c) k x)
abbrev sR (h : PH) (c k : Nat) (x : Option Nat) : PH := wR h c (va_up (h.2.2 c) k x)
theorem up2_self {α : Type} (f : Nat → Nat → α) (c : Nat) (g : Nat → α) : up2 f c g c = g := if_pos rfl
theorem up2_ne {α : Type} (f : Nat → Nat → α) {a c : Nat} (g : Nat → α) (h : a ≠ c) : up2 f c g a = f a := if_neg h
theorem toW_congr {X : Cx} {sh : SH} {h h' : PH} (k : Nat) {s : Nat ⊕ (Nat × Nat)} (hk : sh[k]? = some s) (he : ∀ c s', c ≠ k → sh[c]? = some s' → toE X s' h' c = toE X s' h c) : (toW X sh h).set k (X.1 + k, toE X s h' k) = toW X sh h' := by
  have hl := (List.getElem?_eq_some_iff.mp hk).1
  apply List.ext_getElem?
  intro i
  by_cases e : k = i
  · subst e
    rw [List.getElem?_set_self (by rw [toW_len]; exact hl), toW_at hk]
  · rw [List.getElem?_set_ne e]
    unfold toW
    rw [List.getElem?_mapIdx, List.getElem?_mapIdx]
    cases h1 : sh[i]? with
    | none => rfl
    | some a =>
      show some (X.1 + i, toE X a h i) = some (X.1 + i, toE X a h' i)
      rw [he i a (fun q => e q.symm) h1]
theorem fvl_wI {base : Nat} {ty : FieldType} {h : PH} {c c' k : Nat} {g : Nat → Int32} (hc : c' ≠ c) : fvl base ty (wI h c g) c' k = fvl base ty h c' k := by
  cases ty <;> simp [fvl, wI, up2_ne _ _ hc]
theorem fvl_wL {base : Nat} {ty : FieldType} {h : PH} {c c' k : Nat} {g : Nat → Int64} (hc : c' ≠ c) : fvl base ty (wL h c g) c' k = fvl base ty h c' k := by
  cases ty <;> simp [fvl, wL, up2_ne _ _ hc]
theorem fvl_wR {base : Nat} {ty : FieldType} {h : PH} {c c' k : Nat} {g : Nat → Option Nat} (hc : c' ≠ c) : fvl base ty (wR h c g) c' k = fvl base ty h c' k := by
  cases ty <;> simp [fvl, wR, up2_ne _ _ hc]
theorem toE_wI {X : Cx} {s : Nat ⊕ (Nat × Nat)} {h : PH} {c c' : Nat} {g : Nat → Int32} (hc : c' ≠ c) : toE X s (wI h c g) c' = toE X s h c' := by
  rcases s with ci | ⟨kd, n⟩
  · simp only [toE, fvl_wI hc]
  · simp only [toE, arE, wI, up2_ne _ _ hc]
theorem toE_wL {X : Cx} {s : Nat ⊕ (Nat × Nat)} {h : PH} {c c' : Nat} {g : Nat → Int64} (hc : c' ≠ c) : toE X s (wL h c g) c' = toE X s h c' := by
  rcases s with ci | ⟨kd, n⟩
  · simp only [toE, fvl_wL hc]
  · simp only [toE, arE, wL, up2_ne _ _ hc]
theorem toE_wR {X : Cx} {s : Nat ⊕ (Nat × Nat)} {h : PH} {c c' : Nat} {g : Nat → Option Nat} (hc : c' ≠ c) : toE X s (wR h c g) c' = toE X s h c' := by
  rcases s with ci | ⟨kd, n⟩
  · simp only [toE, fvl_wR hc]
  · simp only [toE, arE, wR, up2_ne _ _ hc]
/-! ===== classes ===== -/
def lw_g : List Cond := lw_tbl.filter goodWord
def clR : Nat → String
  | 0 => RX0
  | 1 => RX1
  | 2 => RX2
  | 3 => RX3
  | 4 => RX4
  | 5 => RX5
  | 6 => RX6
  | 7 => RX7
  | 8 => RX8
  | 9 => RX9
  | _ => RX10
def clT : Nat → u_T
  | 0 => TX0
  | 1 => TX1
  | 2 => TX2
  | 3 => TX3
  | 4 => TX4
  | 5 => TX5
  | 6 => TX6
  | 7 => TX7
  | 8 => TX8
  | 9 => TX9
  | _ => TX10
theorem vwCl_at {ci : Nat} (h : ci < 11) : vwCl[ci]? = some (clR ci, clT ci, clN ci) := by
  rcases (show ci = 0 ∨ ci = 1 ∨ ci = 2 ∨ ci = 3 ∨ ci = 4 ∨ ci = 5 ∨ ci = 6 ∨ ci = 7 ∨ ci = 8 ∨ ci = 9 ∨ ci = 10 by omega) with e | e | e | e | e | e | e | e | e | e | e <;> subst e <;> rfl
theorem cl_in0 : ∀ w ∈ u_ws RX0 TX0 3, w ∈ lw_g := fun w hw => List.mem_filter.mpr ⟨(by decide +kernel : ∀ w ∈ u_ws RX0 TX0 3, w ∈ lw_tbl) w hw, (by decide +kernel : ∀ w ∈ u_ws RX0 TX0 3, goodWord w = true) w hw⟩
theorem cl_in1 : ∀ w ∈ u_ws RX1 TX1 4, w ∈ lw_g := fun w hw => List.mem_filter.mpr ⟨(by decide +kernel : ∀ w ∈ u_ws RX1 TX1 4, w ∈ lw_tbl) w hw, (by decide +kernel : ∀ w ∈ u_ws RX1 TX1 4, goodWord w = true) w hw⟩
theorem cl_in2 : ∀ w ∈ u_ws RX2 TX2 16, w ∈ lw_g := fun w hw => List.mem_filter.mpr ⟨(by decide +kernel : ∀ w ∈ u_ws RX2 TX2 16, w ∈ lw_tbl) w hw, (by decide +kernel : ∀ w ∈ u_ws RX2 TX2 16, goodWord w = true) w hw⟩
theorem cl_in3 : ∀ w ∈ u_ws RX3 TX3 5, w ∈ lw_g := fun w hw => List.mem_filter.mpr ⟨(by decide +kernel : ∀ w ∈ u_ws RX3 TX3 5, w ∈ lw_tbl) w hw, (by decide +kernel : ∀ w ∈ u_ws RX3 TX3 5, goodWord w = true) w hw⟩
theorem cl_in4 : ∀ w ∈ u_ws RX4 TX4 12, w ∈ lw_g := fun w hw => List.mem_filter.mpr ⟨(by decide +kernel : ∀ w ∈ u_ws RX4 TX4 12, w ∈ lw_tbl) w hw, (by decide +kernel : ∀ w ∈ u_ws RX4 TX4 12, goodWord w = true) w hw⟩
theorem cl_in5 : ∀ w ∈ u_ws RX5 TX5 14, w ∈ lw_g := fun w hw => List.mem_filter.mpr ⟨(by decide +kernel : ∀ w ∈ u_ws RX5 TX5 14, w ∈ lw_tbl) w hw, (by decide +kernel : ∀ w ∈ u_ws RX5 TX5 14, goodWord w = true) w hw⟩
theorem cl_in6 : ∀ w ∈ u_ws RX6 TX6 7, w ∈ lw_g := fun w hw => List.mem_filter.mpr ⟨(by decide +kernel : ∀ w ∈ u_ws RX6 TX6 7, w ∈ lw_tbl) w hw, (by decide +kernel : ∀ w ∈ u_ws RX6 TX6 7, goodWord w = true) w hw⟩
theorem cl_in7 : ∀ w ∈ u_ws RX7 TX7 12, w ∈ lw_g := fun w hw => List.mem_filter.mpr ⟨(by decide +kernel : ∀ w ∈ u_ws RX7 TX7 12, w ∈ lw_tbl) w hw, (by decide +kernel : ∀ w ∈ u_ws RX7 TX7 12, goodWord w = true) w hw⟩
theorem cl_in8 : ∀ w ∈ u_ws RX8 TX8 5, w ∈ lw_g := fun w hw => List.mem_filter.mpr ⟨(by decide +kernel : ∀ w ∈ u_ws RX8 TX8 5, w ∈ lw_tbl) w hw, (by decide +kernel : ∀ w ∈ u_ws RX8 TX8 5, goodWord w = true) w hw⟩
theorem cl_in9 : ∀ w ∈ u_ws RX9 TX9 11, w ∈ lw_g := fun w hw => List.mem_filter.mpr ⟨(by decide +kernel : ∀ w ∈ u_ws RX9 TX9 11, w ∈ lw_tbl) w hw, (by decide +kernel : ∀ w ∈ u_ws RX9 TX9 11, goodWord w = true) w hw⟩
theorem cl_in10 : ∀ w ∈ u_ws RX10 TX10 51, w ∈ lw_g := fun w hw => List.mem_filter.mpr ⟨(by decide +kernel : ∀ w ∈ u_ws RX10 TX10 51, w ∈ lw_tbl) w hw, (by decide +kernel : ∀ w ∈ u_ws RX10 TX10 51, goodWord w = true) w hw⟩
theorem cl_in {ci : Nat} (h : ci < 11) : ∀ w ∈ u_ws (clR ci) (clT ci) (clN ci), w ∈ lw_g := by
  rcases (show ci = 0 ∨ ci = 1 ∨ ci = 2 ∨ ci = 3 ∨ ci = 4 ∨ ci = 5 ∨ ci = 6 ∨ ci = 7 ∨ ci = 8 ∨ ci = 9 ∨ ci = 10 by omega) with e | e | e | e | e | e | e | e | e | e | e <;> subst e
  · exact cl_in0
  · exact cl_in1
  · exact cl_in2
  · exact cl_in3
  · exact cl_in4
  · exact cl_in5
  · exact cl_in6
  · exact cl_in7
  · exact cl_in8
  · exact cl_in9
  · exact cl_in10
theorem cl_ty {ci : Nat} (h : ci < 11) : ∀ k, k < clN ci → parseFieldDescriptor (clT ci k).2.2.1 = some (clTy ci k) := by
  rcases (show ci = 0 ∨ ci = 1 ∨ ci = 2 ∨ ci = 3 ∨ ci = 4 ∨ ci = 5 ∨ ci = 6 ∨ ci = 7 ∨ ci = 8 ∨ ci = 9 ∨ ci = 10 by omega) with e | e | e | e | e | e | e | e | e | e | e <;> subst e
  · exact tyX0_ok
  · exact tyX1_ok
  · exact tyX2_ok
  · exact tyX3_ok
  · exact tyX4_ok
  · exact tyX5_ok
  · exact tyX6_ok
  · exact tyX7_ok
  · exact tyX8_ok
  · exact tyX9_ok
  · exact tyX10_ok
theorem cl_nm {ci : Nat} (h : ci < 11) : ∀ a, a < clN ci → ∀ b, b < clN ci → a ≠ b → (clT ci a).2.1 ≠ (clT ci b).2.1 := by
  rcases (show ci = 0 ∨ ci = 1 ∨ ci = 2 ∨ ci = 3 ∨ ci = 4 ∨ ci = 5 ∨ ci = 6 ∨ ci = 7 ∨ ci = 8 ∨ ci = 9 ∨ ci = 10 by omega) with e | e | e | e | e | e | e | e | e | e | e <;> subst e
  · exact nmX0
  · exact nmX1
  · exact nmX2
  · exact nmX3
  · exact nmX4
  · exact nmX5
  · exact nmX6
  · exact nmX7
  · exact nmX8
  · exact nmX9
  · exact nmX10
theorem lw_inG {w : Cond} (i : Nat) (h : lw_tbl[i]? = some w) (hg : goodWord w = true) : w ∈ lw_g := List.mem_filter.mpr ⟨List.mem_of_getElem? h, hg⟩
theorem lw_goodIn {ws : List Cond} (h : ∀ w ∈ ws, w ∈ lw_g) : GoodIn lw_g ws := fun w hw => ⟨h w hw, good_of_word (List.mem_filter.mp (h w hw)).2⟩
/-! ===== what lies outside: the literals, the tables of the class's own ===== -/
def nJS : Nat := 14
def ownS : Nat → String := fun i => if i < 13 then "LastBoat$Reader" else "LastBoatModel"
def idxS : Nat → Nat := fun i => if i < 13 then 140 + 2 * i else 116
def txS : Nat → String
  | 0 => "weeks"
  | 1 => "cases"
  | 2 => "winter"
  | 3 => "thing"
  | 4 => "want"
  | 5 => "instead"
  | 6 => "family"
  | 7 => "n"
  | 8 => "wnnnn"
  | 9 => "wnnnnnn"
  | 10 => "wwnnnnn"
  | 11 => "wwn"
  | 12 => "wnnn"
  | _ => "weeks cases winter thing want instead family "
def bytS (i : Nat) : List Int32 := (txS i).toList.map (fun c => Int32.ofNat c.toNat)
def lenJS : List Nat := [5, 5, 6, 5, 4, 7, 6, 1, 5, 7, 7, 3, 4, 45]
def bytJS : List (List Int32) := [[119, 101, 101, 107, 115], [99, 97, 115, 101, 115], [119, 105, 110, 116, 101, 114], [116, 104, 105, 110, 103], [119, 97, 110, 116], [105, 110, 115, 116, 101, 97, 100], [102, 97, 109, 105, 108, 121], [110], [119, 110, 110, 110, 110], [119, 110, 110, 110, 110, 110, 110], [119, 119, 110, 110, 110, 110, 110], [119, 119, 110], [119, 110, 110, 110], [119, 101, 101, 107, 115, 32, 99, 97, 115, 101, 115, 32, 119, 105, 110, 116, 101, 114, 32, 116, 104, 105, 110, 103, 32, 119, 97, 110, 116, 32, 105, 110, 115, 116, 101, 97, 100, 32, 102, 97, 109, 105, 108, 121, 32]]
def leastT : List Int32 := [1, 0, 0, 0, 0, 0, 0, 0, 0, 0, 0, 0, 0, 0, 0, 0, 0, 0, 0, 0, 0, 0, 1, 0, 0, 0, 0, 0, 0, 0, 0, 0, 0, 0, 0, 0, 0, 0, 0, 0, 0, 0, 0, 0, 1, 0, 0, 0, 0]
def mostT : List Int32 := [5, 0, 0, 0, 0, 0, 0, 99, 0, 0, 0, 0, 0, 0, 0, 10, 10, 10, 10, 0, 0, 0, 9, 99, 99, 500, 99, 9, 0, 0, 10, 10, 10, 10, 3, 0, 0, 100, 0, 0, 0, 0, 0, 10, 500, 500, 0, 0, 0]
/-! words that warm in their own way: nest mates' links, arrays over a type -/
def nbL : List (String × Nat × MethodName × String) := [("LastBoat$Post", 32, ⟨"LastBoat$Thing", "<init>", "()V"⟩, "LastBoat"), ("LastBoat$Post", 33, ⟨"LastBoat$Family", "<init>", "()V"⟩, "LastBoat"), ("LastBoat", 29, ⟨"LastBoat$Reader", "<init>", "()V"⟩, "LastBoat"), ("LastBoat", 36, ⟨"LastBoat$Outlook", "<init>", "()V"⟩, "LastBoat"), ("LastBoat$Outlook", 26, ⟨"LastBoat$Week", "<init>", "()V"⟩, "LastBoat"), ("LastBoat", 43, ⟨"LastBoat$Pair", "<init>", "()V"⟩, "LastBoat"), ("LastBoat$Pair", 20, ⟨"LastBoat$Week", "<init>", "()V"⟩, "LastBoat"), ("LastBoat", 50, ⟨"LastBoat$Loading", "<init>", "()V"⟩, "LastBoat"), ("LastBoat", 61, ⟨"LastBoat$Run", "<init>", "()V"⟩, "LastBoat"), ("LastBoat$Run", 22, ⟨"LastBoat$Week", "<init>", "()V"⟩, "LastBoat"), ("LastBoat$Outlook", 138, ⟨"LastBoat", "tenTo", "(I)J"⟩, "LastBoat"), ("LastBoat$Pair", 53, ⟨"LastBoat", "tenTo", "(I)J"⟩, "LastBoat")]
def aoL : List FieldType := [.array .int, .object "LastBoat$Thing", .object "LastBoat$Family", .array .long, .object "LastBoat$Run"]
def NBs (U : State) : Prop := (∀ q ∈ nbL, va_Nw (.methodLinkNest q.1 q.2.1 q.2.2.1 q.2.2.2) U) ∧ ∀ t ∈ aoL, (Cond.arrayOver t).before #[] U = true
theorem ao_movedA {t : FieldType} {u U : State} (hvm : u.vm.Alike U.vm) (h : (Cond.arrayOver (.array t)).before #[] u = true) : (Cond.arrayOver (.array t)).before #[] U = true := by
  obtain ⟨comp, c, k, h1, h2, h3, h4, h5⟩ := arrayOverA_spec h
  obtain ⟨k', hk', he⟩ := hvm.2.2 _ _ h3
  have hi : (U.vm.classes.findIdx? fun (x : Class) => match x.kind with | .array component _ => component == comp | _ => false) = some c := by
    rw [hvm.findIdx?_eq _ (fun _ => rfl)]
    exact h2
  have hkind : k'.kind = .array comp (.array t) := by rw [he]; exact h4
  have f1 : U.vm.findClass (FieldType.array t).toString = some comp := by rw [hvm.findClass]; exact h1
  have f2 : U.vm.findClass ("[" ++ (FieldType.array t).toString) = some c := by rw [hvm.findClass]; exact h5
  unfold Cond.before Cond.holds
  simp only [Cond.value]
  rw [f1, Option.bind_some]
  refine (congrArg (fun o : Option Nat => (o.bind (fun c => (U.vm.classes[c]?).map fun (k : Class) => match k.kind with | .array _ ty => decide (ty = FieldType.array t) && decide (U.vm.findClass ("[" ++ (FieldType.array t).toString) = some c) | _ => false) == some true)) hi).trans ?_
  simp [hk', hkind, f2]
theorem NBs.warm {s U : State} (hW : s.WarmedH U.vm) (h : NBs s) : NBs U := by
  refine ⟨fun q hq => va_Nw.warmM hW (h.1 q hq), fun t ht => ?_⟩
  have h0 := h.2 t ht
  simp only [aoL, List.mem_cons, List.not_mem_nil, or_false] at ht
  rcases ht with rfl | rfl | rfl | rfl | rfl
  · exact ao_movedA hW.alike h0
  · exact va_AO.use (va_AO.moved hW.alike (va_AO.of h0))
  · exact va_AO.use (va_AO.moved hW.alike (va_AO.of h0))
  · exact ao_movedA hW.alike h0
  · exact va_AO.use (va_AO.moved hW.alike (va_AO.of h0))
theorem NBs.same {s U : State} (hv : s.vm = U.vm) (h : NBs s) : NBs U := by
  refine ⟨fun q hq => va_Nw.same rfl hv (h.1 q hq), fun t ht => ?_⟩
  have h0 := h.2 t ht
  have ha : s.vm.Alike U.vm := by rw [hv]; exact Vm.Alike.refl U.vm
  simp only [aoL, List.mem_cons, List.not_mem_nil, or_false] at ht
  rcases ht with rfl | rfl | rfl | rfl | rfl
  · exact ao_movedA ha h0
  · exact va_AO.use (va_AO.moved ha (va_AO.of h0))
  · exact va_AO.use (va_AO.moved ha (va_AO.of h0))
  · exact ao_movedA ha h0
  · exact va_AO.use (va_AO.moved ha (va_AO.of h0))
def EXT (X : Cx) (U : State) (H : Heap) : Prop :=
  vk_S nJS lenJS bytJS X.2.1 (fun i => X.2.1 (14 + i)) (AA X) U H ∧ (∀ i, i < nJS → vk_R (ownS i) (idxS i) (txS i) (X.2.1 i) U) ∧
  (va_Z "LastBoat$Reader" "LEAST" "[I" (.ref (X.2.1 28)) (AA X) U H ∧ va_T .int (X.2.1 28) 49 (fun j => .int (leastT.getD j 0)) (AA X) U H) ∧
  (va_Z "LastBoat$Reader" "MOST" "[I" (.ref (X.2.1 29)) (AA X) U H ∧ va_T .int (X.2.1 29) 49 (fun j => .int (mostT.getD j 0)) (AA X) U H) ∧
  (va_Z "java/lang/String" "COMPACT_STRINGS" "Z" (.int 1) (AA X) U H ∧ (va_Z "jdk/internal/util/Preconditions" "SIOOBE_FORMATTER" "Ljava/util/function/BiFunction;" .null (AA X) U H ∨ va_Z "jdk/internal/util/Preconditions" "SIOOBE_FORMATTER" "Ljava/util/function/BiFunction;" (.ref (X.2.1 30)) (AA X) U H)) ∧ NBs U
theorem EXT.warm {X : Cx} {s U : State} {H : Heap} (hW : s.WarmedH U.vm) (h : EXT X s H) : EXT X U H :=
  ⟨vk_S.moved hW.alike h.1, fun i hi => vk_R.warm hW (h.2.1 i hi), ⟨va_Z.moved hW.alike h.2.2.1.1, va_T.moved hW.alike h.2.2.1.2⟩, ⟨va_Z.moved hW.alike h.2.2.2.1.1, va_T.moved hW.alike h.2.2.2.1.2⟩, ⟨va_Z.moved hW.alike h.2.2.2.2.1.1, h.2.2.2.2.1.2.imp (va_Z.moved hW.alike) (va_Z.moved hW.alike)⟩, NBs.warm hW h.2.2.2.2.2⟩
theorem EXT.kept {X : Cx} {U : State} {H H1 : Heap} (h : EXT X U H) (hq : ∀ a : Nat, a < H.size → ¬ (AA X) a → H1[a]? = H[a]?) : EXT X U H1 :=
  ⟨vk_S.kept h.1 hq, h.2.1, ⟨va_Z.kept h.2.2.1.1 hq, va_T.kept h.2.2.1.2 hq⟩, ⟨va_Z.kept h.2.2.2.1.1 hq, va_T.kept h.2.2.2.1.2 hq⟩, ⟨va_Z.kept h.2.2.2.2.1.1 hq, h.2.2.2.2.1.2.imp (fun z => va_Z.kept z hq) (fun z => va_Z.kept z hq)⟩, h.2.2.2.2.2⟩
theorem EXT.calling {X : Cx} {U : State} {g : JFrame} {mk : MethodId} {a : Array Value} (h : EXT X U U.heap) : EXT X (U.calling g mk a) (U.calling g mk a).heap :=
  ⟨vk_S.moved (u := U) (U := U.calling g mk a) (Vm.Alike.refl U.vm) h.1, fun i hi => vk_R.same (u := U) (U := U.calling g mk a) rfl (h.2.1 i hi), ⟨va_Z.moved (u := U) (U := U.calling g mk a) (Vm.Alike.refl U.vm) h.2.2.1.1, va_T.moved (u := U) (U := U.calling g mk a) (Vm.Alike.refl U.vm) h.2.2.1.2⟩, ⟨va_Z.moved (u := U) (U := U.calling g mk a) (Vm.Alike.refl U.vm) h.2.2.2.1.1, va_T.moved (u := U) (U := U.calling g mk a) (Vm.Alike.refl U.vm) h.2.2.2.1.2⟩, ⟨va_Z.moved (u := U) (U := U.calling g mk a) (Vm.Alike.refl U.vm) h.2.2.2.2.1.1, h.2.2.2.2.1.2.imp (fun z => va_Z.moved (u := U) (U := U.calling g mk a) (Vm.Alike.refl U.vm) z) (fun z => va_Z.moved (u := U) (U := U.calling g mk a) (Vm.Alike.refl U.vm) z)⟩, NBs.same (s := U) (U := U.calling g mk a) rfl h.2.2.2.2.2⟩
