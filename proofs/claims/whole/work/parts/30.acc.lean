/-! ===== what the states say, one by one ===== -/
section AC
variable {h h' : PH} {p : Nat} {A : AS}
theorem WF.wk (a : WF A) : 1 ≤ aP A 0 0 0 ∧ aP A 0 0 0 ≤ 5 := a.2.2.1.1.1
theorem WF.cs (a : WF A) : aP A 0 1 0 ≤ 99 := a.2.2.1.1.2.1
theorem WF.wn (a : WF A) : aP A 0 2 0 ≤ 4 := a.2.2.1.1.2.2.1
theorem WF.tn (a : WF A) : aP A 0 3 0 ≤ 4 := a.2.2.1.1.2.2.2.1
theorem WF.fn (a : WF A) : aP A 0 4 0 ≤ 6 := a.2.2.1.1.2.2.2.2.1
theorem WF.x (a : WF A) {w : Nat} (hw : w < aP A 0 2 0) : aP A 1 w 0 ≤ 10 := (a.2.2.1.2.1 w hw).1
theorem WF.xs (a : WF A) (hw : 0 < aP A 0 2 0) : sm (fun w => aP A 1 w 0) (aP A 0 2 0) = 10 := a.2.2.1.2.2.1 hw
theorem WF.t (a : WF A) {t : Nat} (ht : t < aP A 0 3 0) : (1 ≤ aP A 2 t 0 ∧ aP A 2 t 0 ≤ 9) ∧ aP A 2 t 1 ≤ 99 ∧ aP A 2 t 2 ≤ 99 ∧ aP A 2 t 3 ≤ 500 ∧ aP A 2 t 4 ≤ 99 ∧ (aP A 2 t 5 ≤ 9 ∧ aP A 2 t 5 ≠ 1) := a.2.2.1.2.2.2.1 t ht
theorem WF.t6 (a : WF A) {t : Nat} (ht : t < aP A 0 3 0) {i : Nat} (hi : i < 6) : aP A 2 t i < 1000 := by
  have b := a.t ht
  rcases (show i = 0 ∨ i = 1 ∨ i = 2 ∨ i = 3 ∨ i = 4 ∨ i = 5 by omega) with rfl | rfl | rfl | rfl | rfl | rfl <;> omega
theorem WF.u (a : WF A) {t w n : Nat} (ht : t < aP A 0 3 0) (hw : w < 4) (hn : n < 5) : aP A 3 (4 * t + w) n ≤ 10 := by
  have b := a.2.2.1.2.2.2.2.1 t ht w hw
  rcases (show n = 0 ∨ n = 1 ∨ n = 2 ∨ n = 3 ∨ n = 4 by omega) with rfl | rfl | rfl | rfl | rfl <;> omega
theorem WF.us (a : WF A) {t w : Nat} (ht : t < aP A 0 3 0) (hw : w < 4) : aP A 3 (4 * t + w) 0 + aP A 3 (4 * t + w) 1 + aP A 3 (4 * t + w) 2 + aP A 3 (4 * t + w) 3 = 10 := (a.2.2.1.2.2.2.2.1 t ht w hw).1
theorem WF.hp (a : WF A) {t : Nat} (ht : t < aP A 0 3 0) : aP A 4 t 0 ≤ aP A 0 3 0 := (a.2.2.1.2.2.2.2.2.1 t ht).1
theorem WF.hq (a : WF A) {t : Nat} (ht : t < aP A 0 3 0) (z : aP A 4 t 0 ≠ 0) : aP A 5 t 0 ≤ 100 := (a.2.2.1.2.2.2.2.2.1 t ht).2 z
theorem WF.ru (a : WF A) {t : Nat} (ht : t < aP A 0 3 0) : aU A t 0 ≤ 2 ∧ aU A t 1 ≤ 40 := a.2.2.2.1 t ht
theorem XI.po (a : XI h p A) : IsPo p := a.1.1
theorem XI.cu (a : XI h p A) : h.2.2 0 2 = some p := a.1.2.1
theorem XI.wk (a : XI h p A) : h.1 p 0 = nI (aP A 0 0 0) := a.2.2.1.1.1
theorem XI.cs (a : XI h p A) : h.1 p 1 = nI (aP A 0 1 0) := a.2.2.1.1.2.1
theorem XI.cl (a : XI h p A) : h.1 p 2 = nI (aP A 0 5 0) := a.2.2.1.1.2.2.1
theorem XI.wn (a : XI h p A) : h.1 p 3 = nI (aP A 0 2 0) := a.2.2.1.1.2.2.2.1
theorem XI.tn (a : XI h p A) : h.1 p 4 = nI (aP A 0 3 0) := a.2.2.1.1.2.2.2.2.1
theorem XI.fn (a : XI h p A) : h.1 p 5 = nI (aP A 0 4 0) := a.2.2.1.1.2.2.2.2.2
theorem XI.x (a : XI h p A) {w : Nat} (hw : w < aP A 0 2 0) : h.2.1 (p + 1) w = lN (aP A 1 w 0) := a.2.2.1.2.1 w hw
theorem XI.sg (a : XI h p A) {w k : Nat} (hw : w < aP A 0 2 0) (hk : k < 3) : h.1 (p + 3 + w) k = nI (aP A 1 w (k + 1)) := a.2.2.1.2.2.1 w hw k hk
theorem XI.t (a : XI h p A) {t k : Nat} (ht : t < aP A 0 3 0) (hk : k < 6) : h.1 (p + 9 + 7 * t) k = nI (aP A 2 t k) := a.2.2.1.2.2.2.1 t ht k hk
theorem XI.w (a : XI h p A) {t w k : Nat} (ht : t < aP A 0 3 0) (hw : w < 4) (hk : k < 5) : h.1 (p + 9 + 7 * t + 2 + w) k = nI (aP A 3 (4 * t + w) k) := a.2.2.1.2.2.2.2.1 t ht w hw k hk
theorem XI.h6 (a : XI h p A) {t : Nat} (ht : t < aP A 0 3 0) : h.1 (p + 9 + 7 * t) 6 = hlp (aP A 4 t 0) := (a.2.2.1.2.2.2.2.2.1 t ht).1
theorem XI.h7 (a : XI h p A) {t : Nat} (ht : t < aP A 0 3 0) (z : aP A 4 t 0 ≠ 0) : h.1 (p + 9 + 7 * t) 7 = nI (aP A 5 t 0) := (a.2.2.1.2.2.2.2.2.1 t ht).2 z
theorem XI.fm (a : XI h p A) {f k : Nat} (hf : f < aP A 0 4 0) (hk : k < 3) : h.1 (p + 37 + f) k = nI (aP A 6 f k) := a.2.2.1.2.2.2.2.2.2 f hf k hk
theorem XI.ta (a : XI h p A) (hW : WF A) {t : Nat} (ht : t < aP A 0 3 0) : TA h (p + 9 + 7 * t) (aP A 2 t) (aU A t 0) (aU A t 1) := by
  have r := hW.ru ht
  exact ⟨fun i hi => ⟨a.t ht hi, hW.t6 ht hi⟩, (a.2.2.2.1 t ht).1, (a.2.2.2.1 t ht).2, by omega, by omega⟩
theorem XI.wa (a : XI h p A) (hW : WF A) {t w : Nat} (ht : t < aP A 0 3 0) (hw : w < 4) : WA h (p + 9 + 7 * t + 2 + w) (aP A 3 (4 * t + w)) := fun n hn => ⟨a.w ht hw hn, hW.u ht hw hn⟩
theorem XI.th (a : XI h p A) (hW : WF A) {t : Nat} (ht : t < aP A 0 3 0) : IsTh (p + 9 + 7 * t) := by
  have b := hW.tn
  rcases a.po with rfl | rfl
  · unfold IsTh; omega
  · unfold IsTh; omega
theorem MI.nm (a : MI h A) {k : Nat} (hk : k < 5) : h.1 160 k = nI (aP A 0 k 0) := a.2.1.1 k hk
theorem MI.x (a : MI h A) {w : Nat} (hw : w < aP A 0 2 0) : h.1 164 (4 * w) = nI (aP A 1 w 0) := a.2.1.2.2.1 w hw 0 (by decide)
theorem MI.sg (a : MI h A) {w k : Nat} (hw : w < aP A 0 2 0) (hk : k < 4) : h.1 164 (4 * w + k) = nI (aP A 1 w k) := a.2.1.2.2.1 w hw k hk
theorem MI.t (a : MI h A) {t k : Nat} (ht : t < aP A 0 3 0) (hk : k < 6) : h.1 165 (6 * t + k) = nI (aP A 2 t k) := a.2.1.2.2.2.1 t ht k hk
theorem MI.w (a : MI h A) {t w k : Nat} (ht : t < aP A 0 3 0) (hw : w < 4) (hk : k < 5) : h.1 166 (5 * (4 * t + w) + k) = nI (aP A 3 (4 * t + w) k) := a.2.1.2.2.2.2.1 t ht w hw k hk
theorem MI.h6 (a : MI h A) {t : Nat} (ht : t < aP A 0 3 0) : h.1 168 t = hlp (aP A 4 t 0) := (a.2.1.2.2.2.2.2.1 t ht).1
theorem MI.h7 (a : MI h A) {t : Nat} (ht : t < aP A 0 3 0) (z : aP A 4 t 0 ≠ 0) : h.1 169 t = nI (aP A 5 t 0) := (a.2.1.2.2.2.2.2.1 t ht).2 z
theorem MI.fm (a : MI h A) {f k : Nat} (hf : f < aP A 0 4 0) (hk : k < 3) : h.1 170 (3 * f + k) = nI (aP A 6 f k) := a.2.1.2.2.2.2.2.2 f hf k hk
theorem MI.tma (a : MI h A) (hW : WF A) {t : Nat} (ht : t < aP A 0 3 0) : TMA h t (aP A 2 t) (aU A t 0) (aU A t 1) := by
  have r := hW.ru ht
  exact ⟨fun i hi => ⟨a.t ht hi, hW.t6 ht hi⟩, (a.2.2.1 t ht).1, (a.2.2.1 t ht).2, by omega, by omega, (hW.t ht).2.2.2.2.2.2⟩
theorem MI.wm (a : MI h A) (hW : WF A) {t w : Nat} (ht : t < aP A 0 3 0) (hw : w < 4) : WM h t w (aP A 3 (4 * t + w)) := fun n hn => ⟨a.w ht hw hn, hW.u ht hw hn⟩
theorem MI.k35 (a : MI h A) : h.1 158 35 = hlp 0 := a.2.2.2.2.2.2
end AC
/-! ===== the small calls' answers ===== -/
def endA (A : AS) (n : Int32) : Int32 := if inR n (aN A + 1) then n else -1
def endS (A : AS) (n : Int32) : AS := if inR n (aN A + 1) then wT A (aT A) (cl n) else A
def countA (A : AS) (x : Int32) : Int32 := if x = 0 then nI (aP A 0 5 0) else if x = nI 1 then nI (aN A) else -1
def faultA (A : AS) (x : Int32) : Int32 := if x = 0 then (aF A).1 else if x = nI 1 then (aF A).2 else -1
def toldN (P : PD) (j : Nat) : Int32 := if j < 5 then nI (P 0 j 0) else if j < 10 then -1 else if j < 20 then (if j % 10 < P 0 2 0 then nI (P 1 (j % 10) 0) else -1) else if j % 10 < P 0 3 0 then (if j < 80 then nI (P 2 (j % 10) (j / 10 - 2)) else hlp (P 4 (j % 10) 0)) else -1
def toldA (P : PD) (x : Int32) : Int32 := if inR x 90 then toldN P (cl x) else -1
def wantsA (P : PD) (t w n : Int32) : Int32 := if inR t (P 0 3 0) ∧ inR w (P 0 2 0) ∧ inR n 5 then nI (P 3 (4 * cl t + cl w) (cl n)) else -2
def signsA (P : PD) (w s : Int32) : Int32 := if inR w (P 0 2 0) ∧ inR s 3 then nI (P 1 (cl w) (cl s + 1)) else -2
abbrev ruleOk (P : PD) (t k l : Int32) : Prop := inR t (P 0 3 0) ∧ inR k 3 ∧ inR l 41
def ruleS (A : AS) (t k l : Int32) : AS := if ruleOk (aP A) t k l then wU A (fun j i => if j = cl t then (if i = 0 then cl k else cl l) else aU A j i) else A
theorem XI.rule {h : PH} {p : Nat} {A : AS} {t k l : Nat} (a : XI h p A) (hW : WF A) (ht : t < aP A 0 3 0) : XI (sI (sI h (p + 9 + 7 * t) 8 (nI k)) (p + 9 + 7 * t) 9 (nI l)) p (wU A (fun j i => if j = t then (if i = 0 then k else l) else aU A j i)) := by
  obtain ⟨⟨a1, a2, a3⟩, ⟨a4, a5⟩, a6, a7, ⟨a8, a9⟩, ⟨a10, a11⟩, a12⟩ := a
  have b := a1.b
  have w4 := hW.wn
  have t4 := hW.tn
  have f6 := hW.fn
  generalize hg : sI (sI h (p + 9 + 7 * t) 8 (nI k)) (p + 9 + 7 * t) 9 (nI l) = g
  have fi : ∀ {c i : Nat}, c ≠ p + 9 + 7 * t → g.1 c i = h.1 c i := fun hc => by rw [← hg]; exact (rI_c hc).trans (rI_c hc)
  have ft : ∀ {i : Nat}, i ≠ 8 → i ≠ 9 → g.1 (p + 9 + 7 * t) i = h.1 (p + 9 + 7 * t) i := fun h8 h9 => by rw [← hg]; exact (rI_k h9).trans (rI_k h8)
  have fl : ∀ {c i : Nat}, g.2.1 c i = h.2.1 c i := fun {c i} => by rw [← hg]; rfl
  have fr : ∀ {c i : Nat}, g.2.2 c i = h.2.2 c i := fun {c i} => by rw [← hg]; rfl
  have ff : ∀ {j i : Nat}, i < 8 → g.1 (p + 9 + 7 * j) i = h.1 (p + 9 + 7 * j) i := fun {j i} hi => by
    by_cases q : j = t
    · subst q; exact ft (by omega) (by omega)
    · exact fi (by omega)
  obtain ⟨⟨p0, p1, p2, p3, p4, p5⟩, p6, p7, p8, p9, p10, p11⟩ := a6
  refine ⟨⟨a1, fr.trans a2, fr.trans a3⟩, ⟨fun i hi => (fi (by omega)).trans (a4 i hi), (fi (by omega)).trans a5⟩, ⟨⟨(fi (by omega)).trans p0, (fi (by omega)).trans p1, (fi (by omega)).trans p2, (fi (by omega)).trans p3, (fi (by omega)).trans p4, (fi (by omega)).trans p5⟩, fun w hw => fl.trans (p6 w hw), fun w hw k hk => (fi (by have hw2 : w < aP A 0 2 0 := hw; omega)).trans (p7 w hw k hk), fun t ht k hk => (ff (by omega)).trans (p8 t ht k hk), fun t ht w hw k hk => (fi (by omega)).trans (p9 t ht w hw k hk), fun t ht => ⟨(ff (by omega)).trans (p10 t ht).1, fun z => (ff (by omega)).trans ((p10 t ht).2 z)⟩, fun t ht k hk => (fi (by omega)).trans (p11 t ht k hk)⟩, fun j hj => ?_, ⟨(fi (by omega)).trans a8, (fi (by omega)).trans a9⟩, ⟨(fi (by omega)).trans a10, fun z t ht => (fi (by omega)).trans (a11 z t ht)⟩, fun r hr => ?_⟩
  · by_cases q : j = t
    · subst q
      constructor
      · rw [← hg]; exact (rI_k (by decide)).trans (rI_s.trans (by show nI k = nI (if j = j then (if (0 : Nat) = 0 then k else l) else _); rw [if_pos rfl, if_pos rfl]))
      · rw [← hg]; exact rI_s.trans (by show nI l = nI (if j = j then (if (1 : Nat) = 0 then k else l) else _); rw [if_pos rfl, if_neg (by decide)])
    · have e : ∀ i, aU (wU A (fun j i => if j = t then (if i = 0 then k else l) else aU A j i)) j i = aU A j i := fun i => if_neg q
      rw [e, e]
      exact ⟨(fi (by omega)).trans (a7 j hj).1, (fi (by omega)).trans (a7 j hj).2⟩
  · have := rcX_b hr
    have a := a12 r hr
    exact ⟨(fi (by omega)).trans a.1, fun z => ⟨(fi (by omega)).trans (a.2 z).1, (fi (by omega)).trans (a.2 z).2.1, (fi (by omega)).trans (a.2 z).2.2.1, fl.trans (a.2 z).2.2.2.1, fun t ht i hi => (fi (by omega)).trans ((a.2 z).2.2.2.2 t ht i hi)⟩⟩
theorem MI.rule {h : PH} {A : AS} {t k l : Nat} (a : MI h A) (_ : WF A) (ht : t < aP A 0 3 0) : MI (sI (sI h 171 t (nI k)) 172 t (nI l)) (wU A (fun j i => if j = t then (if i = 0 then k else l) else aU A j i)) := by
  obtain ⟨⟨a1, a2⟩, ⟨p0, p1, p2, p3, p4, p5, p6⟩, a4, ⟨a5, a6⟩, ⟨a7, a8⟩, ⟨a9, a10, a11⟩, a12⟩ := a
  generalize hg : sI (sI h 171 t (nI k)) 172 t (nI l) = g
  have fi : ∀ {c k : Nat}, c ≠ 171 → c ≠ 172 → g.1 c k = h.1 c k := fun h1 h2 => by rw [← hg]; exact (rI_c h2).trans (rI_c h1)
  have fl : ∀ {c i : Nat}, g.2.1 c i = h.2.1 c i := fun {c i} => by rw [← hg]; rfl
  refine ⟨⟨fun i hi => (fi (by decide) (by decide)).trans (a1 i hi), (fi (by decide) (by decide)).trans a2⟩, ⟨fun k hk => (fi (by decide) (by decide)).trans (p0 k hk), (fi (by decide) (by decide)).trans p1, fun w hw k hk => (fi (by decide) (by decide)).trans (p2 w hw k hk), fun w hw k hk => (fi (by decide) (by decide)).trans (p3 w hw k hk), fun t ht w hw k hk => (fi (by decide) (by decide)).trans (p4 t ht w hw k hk), fun t ht => ⟨(fi (by decide) (by decide)).trans (p5 t ht).1, fun z => (fi (by decide) (by decide)).trans ((p5 t ht).2 z)⟩, fun w hw k hk => (fi (by decide) (by decide)).trans (p6 w hw k hk)⟩, fun j hj => ?_, ⟨(fi (by decide) (by decide)).trans a5, (fi (by decide) (by decide)).trans a6⟩, ⟨(fi (by decide) (by decide)).trans a7, fun z t ht => (fi (by decide) (by decide)).trans (a8 z t ht)⟩, ⟨(fi (by decide) (by decide)).trans a9, fun r hr => (fi (by decide) (by decide)).trans (a10 r hr), fun r hr z => ⟨⟨(fi (by decide) (by decide)).trans (a11 r hr z).1.1, (fi (by decide) (by decide)).trans (a11 r hr z).1.2.1, (fi (by decide) (by decide)).trans (a11 r hr z).1.2.2.1, fun t ht => ⟨fun i hi => (fi (by decide) (by decide)).trans (((a11 r hr z).1.2.2.2 t ht).1 i hi), (fi (by decide) (by decide)).trans ((a11 r hr z).1.2.2.2 t ht).2⟩⟩, fl.trans (a11 r hr z).2.1, (fi (by decide) (by decide)).trans (a11 r hr z).2.2⟩⟩, (fi (by decide) (by decide)).trans a12⟩
  by_cases q : j = t
  · subst q
    constructor
    · rw [← hg]; exact (rI_c (by decide)).trans (rI_s.trans (by show nI k = nI (if j = j then (if (0 : Nat) = 0 then k else l) else _); rw [if_pos rfl, if_pos rfl]))
    · rw [← hg]; exact rI_s.trans (by show nI l = nI (if j = j then (if (1 : Nat) = 0 then k else l) else _); rw [if_pos rfl, if_neg (by decide)])
  · have e : ∀ i, aU (wU A (fun j i => if j = t then (if i = 0 then k else l) else aU A j i)) j i = aU A j i := fun i => if_neg q
    rw [e, e]
    constructor
    · rw [← hg]; exact (rI_c (by decide)).trans ((rI_k q).trans (a4 j hj).1)
    · rw [← hg]; exact (rI_k q).trans ((rI_c (by decide)).trans (a4 j hj).2)
theorem lN_to {a : Nat} (h : a < 2 ^ 31) : (lN a).toInt32 = nI a := by
  apply Int32.toInt_inj.mp
  rw [Int64.toInt_toInt32, pk_lT (by omega), nI_toInt h]
  apply Int.bmod_eq_of_le <;> omega
theorem inN {a j b : Nat} (ha : a < 2 ^ 31) (hj : j < 2 ^ 31) (hb : b < 2 ^ 31) : (nI a ≤ nI j ∧ nI j ≤ nI b) ↔ (a ≤ j ∧ j ≤ b) := by
  rw [Int32.le_iff_toInt_le, Int32.le_iff_toInt_le, nI_toInt ha, nI_toInt hj, nI_toInt hb]
  omega
