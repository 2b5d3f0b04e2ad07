/-! ===== texts ===== -/
section JS
variable {M M2 : MD} {R : Room} {sh0 : SH} {Z : ZT} {pc nx : Nat} {L : List (Option PV)} {st : List PV} {sh sh' : SH} {h : PH}
theorem J_callX {i e0 n : Nat} {as : List PV} {st0 : List PV} {Q2 : Option PV → PH → Prop} (hd : DI M pc (.invokevirtual i) 3 nx) (hk : MLk (mown M) i M2) (hok : MOK M2 n) (hv : MVt M2) (he : e0 < nJS) (hcl : (my M2).cls = "java/lang/String") (hst : st0 = as.reverse ++ pX e0 :: st) (hn : as.length = n) (hw : (st.map pcat).sum ≤ 8) (hrm : mfr M2 + 1 ≤ R.frames ∧ 8 + (mnL M2 + 11) + mlo M2 ≤ R.locals) (hcr : CR R sh0 sh sh') (hct : Ct M2 sh sh' h (pX e0 :: as) Q2) (kk : ∀ r h', Q2 r h' → J M R sh0 Z nx L (r.toList ++ st) sh' h') : J M R sh0 Z pc L st0 sh h := by
  intro X p l e s m args below meth cd H locs ls C z hl hr hS
  obtain ⟨hd, rfl⟩ := hd
  subst hst
  intro T hT Xs
  have hz : H.size ≤ X.1 + sh.length := by rw [← hT]; exact stand_sz C Xs hcr.1.1
  have hts := C.2.2.2.2.2.1
  have cw : CallW R s args (mown M) (my M2).cls i (my M2) (mcc M2) (mnL M2) (mret M2) (mws M2) (rmOf M2 (sh'.length - sh.length) (ssz sh' - ssz sh)) (sh'.length - sh.length) (ssz sh' - ssz sh) n := ⟨callB_of n hts (mws_good hok) rfl rfl rfl (hts _ hok.2.1) (hts _ hk) hok.2.2 hrm, hts _ hv.1, hts _ hv.2⟩
  have hp : PreV s H (my M2).cls (X.2.1 e0) (va_Pc ((pX e0 :: as).map (re X)) (Bst X sh h)) (as.map (re X)) := ⟨Bst.blind X sh h _, by rw [hcl]; exact vk_recv C.2.2.2.2.2.2.2.2.1.1 he hS, fun U hU hW => ⟨rfl, Bst.at C hr hS hz U hU hW⟩⟩
  have hrun := va_runV (p := p) (e := e) (below := below) (meth := meth) (locs := locs) (cells := sh.length - sh0.length) (slots := ssz sh - ssz sh0) (g := F0 m pc ls ((as.reverse ++ pX e0 :: st).map (re X))) (rest := st.map (re X)) ⟨C.1, C.2.1, C.2.2.2.1, C.2.2.2.2.1, hts⟩ (hct l X) cw hp rfl (by rw [List.length_map]; exact hn) hl.1 (by simp [re]) (lv_room (by rw [st_cat]; exact hw)) hd ⟨by have := hcr.2.2.1; have := hcr.1.1; have := hcr.2.1.1; omega, by have := hcr.2.2.2; have := hcr.1.2; have := hcr.2.1.2; omega⟩
  exact J_tail C z hl hS hcr hrun kk hT Xs
theorem J_xget {i e0 : Nat} {own n d : String} {v : PV} (hd : DI M pc (.getfield i) 3 nx) (hk : Cond.fieldLink (mown M) i own n d ∈ lw_g) (hz : ∀ (X : Cx) (U : State) (H : Heap), EXT X U H → va_OF own n d (re X v) (X.2.1 e0) (AA X) U H) (kk : J M R sh0 Z nx L (v :: st) sh h) : J M R sh0 Z pc L (pX e0 :: st) sh h := by
  intro X p l e s m args below meth cd H locs ls C z hl hr hS
  obtain ⟨hd, rfl⟩ := hd
  exact vk_getf C.1 C.2.1 (hz X s s.heap C.2.2.2.2.2.2.2.2.1) hS C.2.2.2.2.1 (C.2.2.2.2.2.1 _ hk) (fun _ q => q) hd (kk X p l e s m args below meth cd H locs ls C z hl hr hS)
theorem J_xlen {e0 N : Nat} {f : Nat → Value} (hd : DI M pc .arraylength 1 nx) (hT : ∀ (X : Cx) (U : State) (H : Heap), EXT X U H → va_T .byte (X.2.1 e0) N f (AA X) U H) (kk : J M R sh0 Z nx L (pI (nI N) :: st) sh h) : J M R sh0 Z pc L (pX e0 :: st) sh h := by
  intro X p l e s m args below meth cd H locs ls C z hl hr hS
  obtain ⟨hd, rfl⟩ := hd
  exact va_tlen C.1 C.2.1 (hT X s s.heap C.2.2.2.2.2.2.2.2.1) hS rfl hd (kk X p l e s m args below meth cd H locs ls C z hl hr hS)
theorem J_xbald {e0 N : Nat} {f : Nat → Int32} {i : Int32} (hd : DI M pc .baload 1 nx) (hT : ∀ (X : Cx) (U : State) (H : Heap), EXT X U H → va_T .byte (X.2.1 e0) N (fun j => .int (f j)) (AA X) U H) (hi : vp_in i N) (kk : J M R sh0 Z nx L (pI (f i.toNatClampNeg) :: st) sh h) : J M R sh0 Z pc L (pI i :: pX e0 :: st) sh h := by
  intro X p l e s m args below meth cd H locs ls C z hl hr hS
  obtain ⟨hd, rfl⟩ := hd
  exact va_tb C.1 C.2.1 (hT X s s.heap C.2.2.2.2.2.2.2.2.1) hS hi rfl hd (kk X p l e s m args below meth cd H locs ls C z hl hr hS)
theorem J_getsF {i : Nat} (hd : DI M pc (.getstatic i) 3 nx) (hk : Cond.fieldLink (mown M) i "jdk/internal/util/Preconditions" "SIOOBE_FORMATTER" "Ljava/util/function/BiFunction;" ∈ lw_g) (k1 : J M R sh0 Z nx L (pR none :: st) sh h) (k2 : J M R sh0 Z nx L (pX 30 :: st) sh h) : J M R sh0 Z pc L st sh h := by
  intro X p l e s m args below meth cd H locs ls C z hl hr hS
  obtain ⟨hd, rfl⟩ := hd
  rcases C.2.2.2.2.2.2.2.2.1.2.2.2.2.1.2 with q | q
  · exact va_gets C.1 C.2.1 q hS C.2.2.2.2.1 (C.2.2.2.2.2.1 _ hk) (fun _ y => y) hd (k1 X p l e s m args below meth cd H locs ls C z hl hr hS)
  · exact va_gets C.1 C.2.1 q hS C.2.2.2.2.1 (C.2.2.2.2.2.1 _ hk) (fun _ y => y) hd (k2 X p l e s m args below meth cd H locs ls C z hl hr hS)
end JS
section JT
variable {M M2 : MD} {R : Room} {Z : ZT} {pc nx : Nat} {L : List (Option PV)} {st : List PV} {h : PH}
theorem J_cXI {i e0 n : Nat} {as : List PV} {st0 : List PV} {P : Int32 → PH → Prop} (hd : DI M pc (.invokevirtual i) 3 nx) (hk : MLk (mown M) i M2) (hok : MOK M2 n) (hv : MVt M2) (he : e0 < nJS) (hcl : (my M2).cls = "java/lang/String") (hst : st0 = as.reverse ++ pX e0 :: st) (hn : as.length = n) (hw : (st.map pcat).sum ≤ 8) (hrm : mfr M2 + 1 ≤ R.frames ∧ 8 + (mnL M2 + 11) + mlo M2 ≤ R.locals) (hcr : CR R SHF SHF SHF) (hct : CtI M2 h (pX e0 :: as) P) (kk : ∀ v h', P v h' → J M R SHF Z nx L (pI v :: st) SHF h') : J M R SHF Z pc L st0 SHF h := J_callX hd hk hok hv he hcl hst hn hw hrm hcr hct (fun r h' ⟨v, e, q⟩ => by subst e; exact kk v h' q)
end JT
def chS (e i : Nat) : Int32 := (bytJS.getD e []).getD i 0
theorem chS_c : ∀ e, e < 14 → ∀ i, i < lenJS.getD e 0 → ((chS e i &&& nI 255).toUInt32 % 65536).toInt32 = chS e i ∧ narrow .char (.int (chS e i)) = .int (chS e i) := by decide +kernel
theorem lenJS_b : ∀ e, e < 14 → lenJS.getD e 0 < 100 := by decide
theorem shr_0 (x : Int32) : x >>> (nI 0 &&& 31) = x := by
  have e : (nI 0 &&& 31 : Int32) = 0 := by decide
  rw [e]
  exact Int32.shiftRight_zero
theorem c_J0_coder {h : PH} {e0 : Nat} (he : e0 < nJS) : CtI mJ0_coder_7d493 h [pX e0] (fun v h' => v = nI 0 ∧ h' = h) := by
  refine Ct.of (L := [some (pX e0)]) rfl rfl (Nat.le_of_ble_eq_true rfl) rfl ?_
  refine J_gets (v := pI (nI 1)) dJ0_coder_7d493_0 (lw_inG 672 (by decide +kernel) (by decide +kernel)) (fun _ _ _ q => q.2.2.2.2.1.1) ?_
  refine J_if_eq dJ0_coder_7d493_3 (fun c0 => absurd c0 (by decide)) (fun c0 => ?_)
  refine J_xload_n dJ0_coder_7d493_6 rfl ?_
  refine J_xget (v := pI (nI 0)) dJ0_coder_7d493_7 (lw_inG 1726 (by decide +kernel) (by decide +kernel)) (fun _ _ _ q => (q.1.1 e0 he).2.1) ?_
  refine J_goto dJ0_coder_7d493_10 ?_
  exact J_retZ dJ0_coder_7d493_14 rfl rfl ⟨rfl, rfl⟩
theorem c_J0_isLatin1 {h : PH} {e0 : Nat} (he : e0 < nJS) : CtI mJ0_isLatin1_aae02 h [pX e0] (fun v h' => v = nI 1 ∧ h' = h) := by
  refine Ct.of (L := [some (pX e0)]) rfl rfl (Nat.le_of_ble_eq_true rfl) rfl ?_
  refine J_gets (v := pI (nI 1)) dJ0_isLatin1_aae02_0 (lw_inG 672 (by decide +kernel) (by decide +kernel)) (fun _ _ _ q => q.2.2.2.2.1.1) ?_
  refine J_if_eq dJ0_isLatin1_aae02_3 (fun c0 => absurd c0 (by decide)) (fun c0 => ?_)
  refine J_xload_n dJ0_isLatin1_aae02_6 rfl ?_
  refine J_xget (v := pI (nI 0)) dJ0_isLatin1_aae02_7 (lw_inG 1726 (by decide +kernel) (by decide +kernel)) (fun _ _ _ q => (q.1.1 e0 he).2.1) ?_
  refine J_if_ne dJ0_isLatin1_aae02_10 (fun c0 => absurd c0 (by decide)) (fun c0 => ?_)
  refine J_iconstN (n := 1) dJ0_isLatin1_aae02_13 ?_
  refine J_goto dJ0_isLatin1_aae02_14 ?_
  exact J_retZ dJ0_isLatin1_aae02_18 rfl rfl ⟨rfl, rfl⟩
theorem c_J0_length {h : PH} {e0 : Nat} (he : e0 < nJS) : CtI mJ0_length_8abf5 h [pX e0] (fun v h' => v = nI (lenJS.getD e0 0) ∧ h' = h) := by
  refine Ct.of (L := [some (pX e0)]) rfl rfl (Nat.le_of_ble_eq_true rfl) rfl ?_
  refine J_xload_n dJ0_length_8abf5_0 rfl ?_
  refine J_xget (v := pX (14 + e0)) dJ0_length_8abf5_1 (lw_inG 1725 (by decide +kernel) (by decide +kernel)) (fun _ _ _ q => (q.1.1 e0 he).2.2.1) ?_
  refine J_xlen (N := lenJS.getD e0 0) dJ0_length_8abf5_4 (fun _ _ _ q => (q.1.1 e0 he).2.2.2) ?_
  refine J_xload_n dJ0_length_8abf5_5 rfl ?_
  refine J_cXI (e0 := e0) (as := []) (st := [pI (nI (lenJS.getD e0 0))]) dJ0_length_8abf5_6 lJ0_335 okJ0_coder_7d493 vJ0_coder_7d493 he rfl rfl rfl (Nat.le_of_ble_eq_true rfl) ⟨Nat.le_of_ble_eq_true rfl, Nat.le_of_ble_eq_true rfl⟩ CR.f (c_J0_coder he) (fun vq1 gq1 eq1 => ?_)
  obtain ⟨rfl, fq1⟩ := eq1
  rw [fq1]
  refine J_ishr dJ0_length_8abf5_9 ?_
  refine J_cvI (y := nI (lenJS.getD e0 0)) (shr_0 _) ?_
  exact J_retI dJ0_length_8abf5_10 rfl ⟨rfl, rfl⟩
theorem c_J3_checkIndex_n {h : PH} {i n : Nat} (hi : i < n) (hn : n < 1000) : CtI mJ3_checkIndex_8e157 h [pI (nI i), pI (nI n), pR none] (fun v h' => v = nI i ∧ h' = h) := by
  refine Ct.of (L := [some (pI (nI i)), some (pI (nI n)), some (pR none)]) rfl rfl (Nat.le_of_ble_eq_true rfl) rfl ?_
  refine J_iload_n dJ3_checkIndex_8e157_0 rfl ?_
  refine J_if_ltN dJ3_checkIndex_8e157_1 (by omega) ?_
  refine J_iload_n dJ3_checkIndex_8e157_4 rfl ?_
  refine J_iload_n dJ3_checkIndex_8e157_5 rfl ?_
  refine J_icmp_ltN dJ3_checkIndex_8e157_6 (by omega) (by omega) (fun c1 => ?_) (fun c1 => ?_)
  · refine J_iload_n dJ3_checkIndex_8e157_16 rfl ?_
    exact J_retI dJ3_checkIndex_8e157_17 rfl ⟨rfl, rfl⟩
  · exact (show False by omega).elim
theorem c_J3_checkIndex_x {h : PH} {i n : Nat} (hi : i < n) (hn : n < 1000) : CtI mJ3_checkIndex_8e157 h [pI (nI i), pI (nI n), pX 30] (fun v h' => v = nI i ∧ h' = h) := by
  refine Ct.of (L := [some (pI (nI i)), some (pI (nI n)), some (pX 30)]) rfl rfl (Nat.le_of_ble_eq_true rfl) rfl ?_
  refine J_iload_n dJ3_checkIndex_8e157_0 rfl ?_
  refine J_if_ltN dJ3_checkIndex_8e157_1 (by omega) ?_
  refine J_iload_n dJ3_checkIndex_8e157_4 rfl ?_
  refine J_iload_n dJ3_checkIndex_8e157_5 rfl ?_
  refine J_icmp_ltN dJ3_checkIndex_8e157_6 (by omega) (by omega) (fun c1 => ?_) (fun c1 => ?_)
  · refine J_iload_n dJ3_checkIndex_8e157_16 rfl ?_
    exact J_retI dJ3_checkIndex_8e157_17 rfl ⟨rfl, rfl⟩
  · exact (show False by omega).elim
theorem c_J0_checkIndex {h : PH} {i n : Nat} (hi : i < n) (hn : n < 1000) : CtV mJ0_checkIndex_df160 h [pI (nI i), pI (nI n)] (fun h' => h' = h) := by
  refine Ct.of (L := [some (pI (nI i)), some (pI (nI n))]) rfl rfl (Nat.le_of_ble_eq_true rfl) rfl ?_
  refine J_iload_n dJ0_checkIndex_df160_0 rfl ?_
  refine J_iload_n dJ0_checkIndex_df160_1 rfl ?_
  refine J_getsF dJ0_checkIndex_df160_2 (lw_inG 688 (by decide +kernel) (by decide +kernel)) ?_ ?_
  · refine J_cSI (as := [pI (nI i), pI (nI n), pR none]) (st := []) dJ0_checkIndex_df160_5 lJ0_1059 okJ3_checkIndex_8e157 sJ3_checkIndex_8e157 rfl rfl (Nat.le_of_ble_eq_true rfl) ⟨Nat.le_of_ble_eq_true rfl, Nat.le_of_ble_eq_true rfl⟩ CR.f (c_J3_checkIndex_n hi hn) (fun vq1 gq1 eq1 => ?_)
    obtain ⟨rfl, fq1⟩ := eq1
    rw [fq1]
    refine J_pop dJ0_checkIndex_df160_8 rfl ?_
    exact J_retV dJ0_checkIndex_df160_9 rfl rfl
  · refine J_cSI (as := [pI (nI i), pI (nI n), pX 30]) (st := []) dJ0_checkIndex_df160_5 lJ0_1059 okJ3_checkIndex_8e157 sJ3_checkIndex_8e157 rfl rfl (Nat.le_of_ble_eq_true rfl) ⟨Nat.le_of_ble_eq_true rfl, Nat.le_of_ble_eq_true rfl⟩ CR.f (c_J3_checkIndex_x hi hn) (fun vq2 gq2 eq2 => ?_)
    obtain ⟨rfl, fq2⟩ := eq2
    rw [fq2]
    refine J_pop dJ0_checkIndex_df160_8 rfl ?_
    exact J_retV dJ0_checkIndex_df160_9 rfl rfl
theorem c_J1_charAt {h : PH} {e0 i : Nat} (he : e0 < nJS) (hi : i < lenJS.getD e0 0) : CtI mJ1_charAt_3b067 h [pX (14 + e0), pI (nI i)] (fun v h' => v = chS e0 i ∧ h' = h) := by
  have hlb := lenJS_b e0 he
  have hlen : lenJS.getD e0 0 < 2 ^ 31 := by omega
  refine Ct.of (L := [some (pX (14 + e0)), some (pI (nI i))]) rfl rfl (Nat.le_of_ble_eq_true rfl) rfl ?_
  refine J_iload_n dJ1_charAt_3b067_0 rfl ?_
  refine J_xload_n dJ1_charAt_3b067_1 rfl ?_
  refine J_xlen (N := lenJS.getD e0 0) dJ1_charAt_3b067_2 (fun _ _ _ q => (q.1.1 e0 he).2.2.2) ?_
  refine J_cSV (as := [pI (nI i), pI (nI (lenJS.getD e0 0))]) (st := []) dJ1_charAt_3b067_3 lJ1_9 okJ0_checkIndex_df160 sJ0_checkIndex_df160 rfl rfl (Nat.le_of_ble_eq_true rfl) ⟨Nat.le_of_ble_eq_true rfl, Nat.le_of_ble_eq_true rfl⟩ CR.f (c_J0_checkIndex hi (by omega)) (fun g1 e1 => ?_)
  rw [e1]
  refine J_xload_n dJ1_charAt_3b067_6 rfl ?_
  refine J_iload_n dJ1_charAt_3b067_7 rfl ?_
  refine J_xbald (N := lenJS.getD e0 0) (f := fun j => (bytJS.getD e0 []).getD j 0) dJ1_charAt_3b067_8 (fun _ _ _ q => (q.1.1 e0 he).2.2.2) (vp_in_nI hi hlen) ?_
  refine J_cvI (y := chS e0 i) (by rw [nI_clamp (by omega)]; rfl) ?_
  refine J_sipush (x := nI 255) dJ1_charAt_3b067_9 (by decide) ?_
  refine J_iand dJ1_charAt_3b067_12 ?_
  refine J_i2c dJ1_charAt_3b067_13 ?_
  refine J_cvI (y := chS e0 i) (chS_c e0 he i hi).1 ?_
  exact J_retZ dJ1_charAt_3b067_14 rfl (chS_c e0 he i hi).2 ⟨rfl, rfl⟩
theorem c_J0_charAt {h : PH} {e0 i : Nat} (he : e0 < nJS) (hi : i < lenJS.getD e0 0) : CtI mJ0_charAt_5068e h [pX e0, pI (nI i)] (fun v h' => v = chS e0 i ∧ h' = h) := by
  have hlb := lenJS_b e0 he
  refine Ct.of (L := [some (pX e0), some (pI (nI i))]) rfl rfl (Nat.le_of_ble_eq_true rfl) rfl ?_
  refine J_xload_n dJ0_charAt_5068e_0 rfl ?_
  refine J_cXI (e0 := e0) (as := []) (st := []) dJ0_charAt_5068e_1 lJ0_492 okJ0_isLatin1_aae02 vJ0_isLatin1_aae02 he rfl rfl rfl (Nat.le_of_ble_eq_true rfl) ⟨Nat.le_of_ble_eq_true rfl, Nat.le_of_ble_eq_true rfl⟩ CR.f (c_J0_isLatin1 he) (fun vq1 gq1 eq1 => ?_)
  obtain ⟨rfl, fq1⟩ := eq1
  rw [fq1]
  refine J_if_eq dJ0_charAt_5068e_4 (fun c0 => absurd c0 (by decide)) (fun c0 => ?_)
  refine J_xload_n dJ0_charAt_5068e_7 rfl ?_
  refine J_xget (v := pX (14 + e0)) dJ0_charAt_5068e_8 (lw_inG 1725 (by decide +kernel) (by decide +kernel)) (fun _ _ _ q => (q.1.1 e0 he).2.2.1) ?_
  refine J_iload_n dJ0_charAt_5068e_11 rfl ?_
  refine J_cSI (as := [pX (14 + e0), pI (nI i)]) (st := []) dJ0_charAt_5068e_12 lJ0_495 okJ1_charAt_3b067 sJ1_charAt_3b067 rfl rfl (Nat.le_of_ble_eq_true rfl) ⟨Nat.le_of_ble_eq_true rfl, Nat.le_of_ble_eq_true rfl⟩ CR.f (c_J1_charAt he hi) (fun vq2 gq2 eq2 => ?_)
  obtain ⟨rfl, fq2⟩ := eq2
  rw [fq2]
  exact J_retZ dJ0_charAt_5068e_15 rfl (chS_c e0 he i hi).2 ⟨rfl, rfl⟩
