/-! ===== the law: its cases 11 .. 21 ===== -/
section JX
variable {Ln : Nat} {xs : Nat → Int32}
theorem law_c11 {j : Nat} {A : AS} {h : PH} (hL : Ln ≤ 3584) (hj : 7 * j + 7 ≤ Ln) (S : St h A) (kk : ∀ A' h', St h' A' → J mL_law room_1 [] (ZW Ln xs) 1332 (LW j) [] SHF h') : J mL_law room_1 [] (ZW Ln xs) 612 (LW j) [] SHF h := by
  obtain ⟨hG, ⟨p, hX⟩, hM, hW⟩ := id S
  refine J_aload_n dL_law_612 rfl ?_
  refine J_arg (k := 1) dL_law_613 dL_law_614 dL_law_615 dL_law_616 dL_law_617 (by omega) hL ?_
  refine J_cWI (ci := 9) (c := 0) (as := [pI (xs (7 * j + 1))]) (st := []) dL_law_618 lL_65 okX9_one vX9_one s0 (by decide) rfl rfl rfl (Nat.le_of_ble_eq_true rfl) ⟨Nat.le_of_ble_eq_true rfl, Nat.le_of_ble_eq_true rfl⟩ crW (c_X9_one hG hX hW) (fun v h1 q1 => ?_)
  obtain ⟨e1, q1⟩ := q1
  have q1 := XP.q q1 hG
  have G1 := q1.2.2
  have M1 := hM.far q1.2.1
  refine J_aload_n dL_law_621 rfl ?_
  refine J_arg (k := 1) dL_law_622 dL_law_623 dL_law_624 dL_law_625 dL_law_626 (by omega) hL ?_
  refine J_cWI (ci := 10) (c := 158) (as := [pI (xs (7 * j + 1))]) (st := [pI v]) dL_law_627 lL_68 okX10_one vX10_one s158 (by decide) rfl rfl rfl (Nat.le_of_ble_eq_true rfl) ⟨Nat.le_of_ble_eq_true rfl, Nat.le_of_ble_eq_true rfl⟩ crW (c_X10_one G1 M1 hW) (fun w h2 q2 => ?_)
  obtain ⟨e2, q2⟩ := q2
  exact J_icmp_eq dL_law_630 (fun _ => kk _ _ (S.next q1 q2 hW)) (fun z => absurd (e1.trans e2.symm) z)
theorem law_c12 {j : Nat} {A : AS} {h : PH} (hL : Ln ≤ 3584) (hj : 7 * j + 7 ≤ Ln) (S : St h A) (kk : ∀ A' h', St h' A' → J mL_law room_1 [] (ZW Ln xs) 1332 (LW j) [] SHF h') : J mL_law room_1 [] (ZW Ln xs) 635 (LW j) [] SHF h := by
  obtain ⟨hG, ⟨p, hX⟩, hM, hW⟩ := id S
  refine J_aload_n dL_law_635 rfl ?_
  refine J_arg (k := 1) dL_law_636 dL_law_637 dL_law_638 dL_law_639 dL_law_640 (by omega) hL ?_
  refine J_arg (k := 2) dL_law_641 dL_law_642 dL_law_643 dL_law_644 dL_law_645 (by omega) hL ?_
  refine J_cWI (ci := 9) (c := 0) (as := [pI (xs (7 * j + 1)), pI (xs (7 * j + 2))]) (st := []) dL_law_646 lL_69 okX9_keeps vX9_keeps s0 (by decide) rfl rfl rfl (Nat.le_of_ble_eq_true rfl) ⟨Nat.le_of_ble_eq_true rfl, Nat.le_of_ble_eq_true rfl⟩ crW (c_X9_keeps hG hX hW) (fun v h1 q1 => ?_)
  obtain ⟨e1, q1⟩ := q1
  have q1 := XP.q q1 hG
  have G1 := q1.2.2
  have M1 := hM.far q1.2.1
  refine J_aload_n dL_law_649 rfl ?_
  refine J_arg (k := 1) dL_law_650 dL_law_651 dL_law_652 dL_law_653 dL_law_654 (by omega) hL ?_
  refine J_arg (k := 2) dL_law_655 dL_law_656 dL_law_657 dL_law_658 dL_law_659 (by omega) hL ?_
  refine J_cWI (ci := 10) (c := 158) (as := [pI (xs (7 * j + 1)), pI (xs (7 * j + 2))]) (st := [pI v]) dL_law_660 lL_72 okX10_keeps vX10_keeps s158 (by decide) rfl rfl rfl (Nat.le_of_ble_eq_true rfl) ⟨Nat.le_of_ble_eq_true rfl, Nat.le_of_ble_eq_true rfl⟩ crW (c_X10_keeps G1 M1 hW) (fun w h2 q2 => ?_)
  obtain ⟨e2, q2⟩ := q2
  exact J_icmp_eq dL_law_663 (fun _ => kk _ _ (S.next q1 q2 hW)) (fun z => absurd (e1.trans e2.symm) z)
theorem law_c13 {j : Nat} {A : AS} {h : PH} (hL : Ln ≤ 3584) (hj : 7 * j + 7 ≤ Ln) (S : St h A) (kk : ∀ A' h', St h' A' → J mL_law room_1 [] (ZW Ln xs) 1332 (LW j) [] SHF h') : J mL_law room_1 [] (ZW Ln xs) 668 (LW j) [] SHF h := by
  obtain ⟨hG, ⟨p, hX⟩, hM, hW⟩ := id S
  refine J_aload_n dL_law_668 rfl ?_
  refine J_arg (k := 1) dL_law_669 dL_law_670 dL_law_671 dL_law_672 dL_law_673 (by omega) hL ?_
  refine J_arg (k := 2) dL_law_674 dL_law_675 dL_law_676 dL_law_677 dL_law_678 (by omega) hL ?_
  refine J_cWI (ci := 9) (c := 0) (as := [pI (xs (7 * j + 1)), pI (xs (7 * j + 2))]) (st := []) dL_law_679 lL_73 okX9_sure vX9_sure s0 (by decide) rfl rfl rfl (Nat.le_of_ble_eq_true rfl) ⟨Nat.le_of_ble_eq_true rfl, Nat.le_of_ble_eq_true rfl⟩ crW (c_X9_sure hG hX hW) (fun v h1 q1 => ?_)
  obtain ⟨e1, q1⟩ := q1
  have q1 := XP.q q1 hG
  have G1 := q1.2.2
  have M1 := hM.far q1.2.1
  refine J_aload_n dL_law_682 rfl ?_
  refine J_arg (k := 1) dL_law_683 dL_law_684 dL_law_685 dL_law_686 dL_law_687 (by omega) hL ?_
  refine J_arg (k := 2) dL_law_688 dL_law_689 dL_law_690 dL_law_691 dL_law_692 (by omega) hL ?_
  refine J_cWI (ci := 10) (c := 158) (as := [pI (xs (7 * j + 1)), pI (xs (7 * j + 2))]) (st := [pI v]) dL_law_693 lL_76 okX10_sure vX10_sure s158 (by decide) rfl rfl rfl (Nat.le_of_ble_eq_true rfl) ⟨Nat.le_of_ble_eq_true rfl, Nat.le_of_ble_eq_true rfl⟩ crW (c_X10_sure G1 M1 hW) (fun w h2 q2 => ?_)
  obtain ⟨e2, q2⟩ := q2
  exact J_icmp_eq dL_law_696 (fun _ => kk _ _ (S.next q1 q2 hW)) (fun z => absurd (e1.trans e2.symm) z)
theorem law_c14 {j : Nat} {A : AS} {h : PH} (hL : Ln ≤ 3584) (hj : 7 * j + 7 ≤ Ln) (S : St h A) (kk : ∀ A' h', St h' A' → J mL_law room_1 [] (ZW Ln xs) 1332 (LW j) [] SHF h') : J mL_law room_1 [] (ZW Ln xs) 701 (LW j) [] SHF h := by
  obtain ⟨hG, ⟨p, hX⟩, hM, hW⟩ := id S
  refine J_aload_n dL_law_701 rfl ?_
  refine J_arg (k := 1) dL_law_702 dL_law_703 dL_law_704 dL_law_705 dL_law_706 (by omega) hL ?_
  refine J_arg (k := 2) dL_law_707 dL_law_708 dL_law_709 dL_law_710 dL_law_711 (by omega) hL ?_
  refine J_arg (k := 3) dL_law_712 dL_law_713 dL_law_714 dL_law_715 dL_law_716 (by omega) hL ?_
  refine J_cWL (ci := 9) (c := 0) (as := [pI (xs (7 * j + 1)), pI (xs (7 * j + 2)), pI (xs (7 * j + 3))]) (st := []) dL_law_717 lL_77 okX9_worth vX9_worth s0 (by decide) rfl rfl rfl (Nat.le_of_ble_eq_true rfl) ⟨Nat.le_of_ble_eq_true rfl, Nat.le_of_ble_eq_true rfl⟩ crW (c_X9_worth hG hX hW) (fun v h1 q1 => ?_)
  obtain ⟨e1, q1⟩ := q1
  have q1 := XP.q q1 hG
  have G1 := q1.2.2
  have M1 := hM.far q1.2.1
  refine J_aload_n dL_law_720 rfl ?_
  refine J_arg (k := 1) dL_law_721 dL_law_722 dL_law_723 dL_law_724 dL_law_725 (by omega) hL ?_
  refine J_arg (k := 2) dL_law_726 dL_law_727 dL_law_728 dL_law_729 dL_law_730 (by omega) hL ?_
  refine J_arg (k := 3) dL_law_731 dL_law_732 dL_law_733 dL_law_734 dL_law_735 (by omega) hL ?_
  refine J_cWL (ci := 10) (c := 158) (as := [pI (xs (7 * j + 1)), pI (xs (7 * j + 2)), pI (xs (7 * j + 3))]) (st := [pL v]) dL_law_736 lL_80 okX10_worth vX10_worth s158 (by decide) rfl rfl rfl (Nat.le_of_ble_eq_true rfl) ⟨Nat.le_of_ble_eq_true rfl, Nat.le_of_ble_eq_true rfl⟩ crW (c_X10_worth G1 M1 hW) (fun w h2 q2 => ?_)
  obtain ⟨e2, q2⟩ := q2
  refine J_lcmp dL_law_739 ?_
  exact J_lif_eq dL_law_740 (fun _ => kk _ _ (S.next q1 q2 hW)) (fun z => absurd (e1.trans e2.symm) z)
theorem law_c15 {j : Nat} {A : AS} {h : PH} (hL : Ln ≤ 3584) (hj : 7 * j + 7 ≤ Ln) (S : St h A) (kk : ∀ A' h', St h' A' → J mL_law room_1 [] (ZW Ln xs) 1332 (LW j) [] SHF h') : J mL_law room_1 [] (ZW Ln xs) 745 (LW j) [] SHF h := by
  obtain ⟨hG, ⟨p, hX⟩, hM, hW⟩ := id S
  refine J_aload_n dL_law_745 rfl ?_
  refine J_cWL (ci := 9) (c := 0) (as := []) (st := []) dL_law_746 lL_81 okX9_list vX9_list s0 (by decide) rfl rfl rfl (Nat.le_of_ble_eq_true rfl) ⟨Nat.le_of_ble_eq_true rfl, Nat.le_of_ble_eq_true rfl⟩ crW (c_X9_list hG hX hW) (fun v h1 q1 => ?_)
  obtain ⟨e1, q1⟩ := q1
  have q1 := XP.q q1 hG
  have G1 := q1.2.2
  have M1 := hM.far q1.2.1
  refine J_aload_n dL_law_749 rfl ?_
  refine J_cWL (ci := 10) (c := 158) (as := []) (st := [pL v]) dL_law_750 lL_85 okX10_list vX10_list s158 (by decide) rfl rfl rfl (Nat.le_of_ble_eq_true rfl) ⟨Nat.le_of_ble_eq_true rfl, Nat.le_of_ble_eq_true rfl⟩ crW (c_X10_list G1 M1 hW) (fun w h2 q2 => ?_)
  obtain ⟨e2, q2⟩ := q2
  refine J_lcmp dL_law_753 ?_
  exact J_lif_eq dL_law_754 (fun _ => kk _ _ (S.next q1 q2 hW.list)) (fun z => absurd (e1.trans e2.symm) z)
theorem law_c16 {j : Nat} {A : AS} {h : PH} (hL : Ln ≤ 3584) (hj : 7 * j + 7 ≤ Ln) (S : St h A) (kk : ∀ A' h', St h' A' → J mL_law room_1 [] (ZW Ln xs) 1332 (LW j) [] SHF h') : J mL_law room_1 [] (ZW Ln xs) 759 (LW j) [] SHF h := by
  obtain ⟨hG, ⟨p, hX⟩, hM, hW⟩ := id S
  refine J_aload_n dL_law_759 rfl ?_
  refine J_arg (k := 1) dL_law_760 dL_law_761 dL_law_762 dL_law_763 dL_law_764 (by omega) hL ?_
  refine J_cWI (ci := 9) (c := 0) (as := [pI (xs (7 * j + 1))]) (st := []) dL_law_765 lL_86 okX9_listed vX9_listed s0 (by decide) rfl rfl rfl (Nat.le_of_ble_eq_true rfl) ⟨Nat.le_of_ble_eq_true rfl, Nat.le_of_ble_eq_true rfl⟩ crW (c_X9_listed hG hX hW) (fun v h1 q1 => ?_)
  obtain ⟨e1, q1⟩ := q1
  have q1 := XP.q q1 hG
  have G1 := q1.2.2
  have M1 := hM.far q1.2.1
  refine J_aload_n dL_law_768 rfl ?_
  refine J_arg (k := 1) dL_law_769 dL_law_770 dL_law_771 dL_law_772 dL_law_773 (by omega) hL ?_
  refine J_cWI (ci := 10) (c := 158) (as := [pI (xs (7 * j + 1))]) (st := [pI v]) dL_law_774 lL_89 okX10_listed vX10_listed s158 (by decide) rfl rfl rfl (Nat.le_of_ble_eq_true rfl) ⟨Nat.le_of_ble_eq_true rfl, Nat.le_of_ble_eq_true rfl⟩ crW (c_X10_listed G1 M1 hW) (fun w h2 q2 => ?_)
  obtain ⟨e2, q2⟩ := q2
  exact J_icmp_eq dL_law_777 (fun _ => kk _ _ (S.next q1 q2 hW)) (fun z => absurd (e1.trans e2.symm) z)
theorem law_c17 {j : Nat} {A : AS} {h : PH} (hL : Ln ≤ 3584) (hj : 7 * j + 7 ≤ Ln) (S : St h A) (kk : ∀ A' h', St h' A' → J mL_law room_1 [] (ZW Ln xs) 1332 (LW j) [] SHF h') : J mL_law room_1 [] (ZW Ln xs) 782 (LW j) [] SHF h := by
  obtain ⟨hG, ⟨p, hX⟩, hM, hW⟩ := id S
  refine J_aload_n dL_law_782 rfl ?_
  refine J_cWI (ci := 9) (c := 0) (as := []) (st := []) dL_law_783 lL_90 okX9_next vX9_next s0 (by decide) rfl rfl rfl (Nat.le_of_ble_eq_true rfl) ⟨Nat.le_of_ble_eq_true rfl, Nat.le_of_ble_eq_true rfl⟩ crW (c_X9_next hG hX hW) (fun v h1 q1 => ?_)
  obtain ⟨e1, q1⟩ := q1
  have q1 := XP.q q1 hG
  have G1 := q1.2.2
  have M1 := hM.far q1.2.1
  refine J_aload_n dL_law_786 rfl ?_
  refine J_cWI (ci := 10) (c := 158) (as := []) (st := [pI v]) dL_law_787 lL_93 okX10_next vX10_next s158 (by decide) rfl rfl rfl (Nat.le_of_ble_eq_true rfl) ⟨Nat.le_of_ble_eq_true rfl, Nat.le_of_ble_eq_true rfl⟩ crW (c_X10_next G1 M1 hW) (fun w h2 q2 => ?_)
  obtain ⟨e2, q2⟩ := q2
  exact J_icmp_eq dL_law_790 (fun _ => kk _ _ (S.next q1 q2 hW.emp)) (fun z => absurd (e1.trans e2.symm) z)
theorem law_c18 {j : Nat} {A : AS} {h : PH} (hL : Ln ≤ 3584) (hj : 7 * j + 7 ≤ Ln) (S : St h A) (kk : ∀ A' h', St h' A' → J mL_law room_1 [] (ZW Ln xs) 1332 (LW j) [] SHF h') : J mL_law room_1 [] (ZW Ln xs) 795 (LW j) [] SHF h := by
  obtain ⟨hG, ⟨p, hX⟩, hM, hW⟩ := id S
  refine J_aload_n dL_law_795 rfl ?_
  refine J_arg (k := 1) dL_law_796 dL_law_797 dL_law_798 dL_law_799 dL_law_800 (by omega) hL ?_
  refine J_arg (k := 2) dL_law_801 dL_law_802 dL_law_803 dL_law_804 dL_law_805 (by omega) hL ?_
  refine J_arg (k := 3) dL_law_806 dL_law_807 dL_law_808 dL_law_809 dL_law_810 (by omega) hL ?_
  refine J_arg (k := 4) dL_law_811 dL_law_812 dL_law_813 dL_law_814 dL_law_815 (by omega) hL ?_
  refine J_cWL (ci := 9) (c := 0) (as := [pI (xs (7 * j + 1)), pI (xs (7 * j + 2)), pI (xs (7 * j + 3)), pI (xs (7 * j + 4))]) (st := []) dL_law_816 lL_94 okX9_instead vX9_instead s0 (by decide) rfl rfl rfl (Nat.le_of_ble_eq_true rfl) ⟨Nat.le_of_ble_eq_true rfl, Nat.le_of_ble_eq_true rfl⟩ crW (c_X9_instead hG hX hW) (fun v h1 q1 => ?_)
  obtain ⟨e1, q1⟩ := q1
  have q1 := XP.q q1 hG
  have G1 := q1.2.2
  have M1 := hM.far q1.2.1
  refine J_aload_n dL_law_819 rfl ?_
  refine J_arg (k := 1) dL_law_820 dL_law_821 dL_law_822 dL_law_823 dL_law_824 (by omega) hL ?_
  refine J_arg (k := 2) dL_law_825 dL_law_826 dL_law_827 dL_law_828 dL_law_829 (by omega) hL ?_
  refine J_arg (k := 3) dL_law_830 dL_law_831 dL_law_832 dL_law_833 dL_law_834 (by omega) hL ?_
  refine J_arg (k := 4) dL_law_835 dL_law_836 dL_law_837 dL_law_838 dL_law_839 (by omega) hL ?_
  refine J_cWL (ci := 10) (c := 158) (as := [pI (xs (7 * j + 1)), pI (xs (7 * j + 2)), pI (xs (7 * j + 3)), pI (xs (7 * j + 4))]) (st := [pL v]) dL_law_840 lL_97 okX10_instead vX10_instead s158 (by decide) rfl rfl rfl (Nat.le_of_ble_eq_true rfl) ⟨Nat.le_of_ble_eq_true rfl, Nat.le_of_ble_eq_true rfl⟩ crW (c_X10_instead G1 M1 hW) (fun w h2 q2 => ?_)
  obtain ⟨e2, q2⟩ := q2
  refine J_lcmp dL_law_843 ?_
  exact J_lif_eq dL_law_844 (fun _ => kk _ _ (S.next q1 q2 hW)) (fun z => absurd (e1.trans e2.symm) z)
theorem law_c19 {j : Nat} {A : AS} {h : PH} (hL : Ln ≤ 3584) (hj : 7 * j + 7 ≤ Ln) (S : St h A) (kk : ∀ A' h', St h' A' → J mL_law room_1 [] (ZW Ln xs) 1332 (LW j) [] SHF h') : J mL_law room_1 [] (ZW Ln xs) 849 (LW j) [] SHF h := by
  obtain ⟨hG, ⟨p, hX⟩, hM, hW⟩ := id S
  refine J_aload_n dL_law_849 rfl ?_
  refine J_arg (k := 1) dL_law_850 dL_law_851 dL_law_852 dL_law_853 dL_law_854 (by omega) hL ?_
  refine J_arg (k := 2) dL_law_855 dL_law_856 dL_law_857 dL_law_858 dL_law_859 (by omega) hL ?_
  refine J_bool dL_law_860 dL_law_863 dL_law_864 dL_law_867 ?_
  refine J_cWL (ci := 9) (c := 0) (as := [pI (xs (7 * j + 1)), pI (nI (bz (xs (7 * j + 2))))]) (st := []) dL_law_868 lL_98 okX9_think vX9_think s0 (by decide) rfl rfl rfl (Nat.le_of_ble_eq_true rfl) ⟨Nat.le_of_ble_eq_true rfl, Nat.le_of_ble_eq_true rfl⟩ crW (c_X9_think hG hX hW bz_lt) (fun v h1 q1 => ?_)
  obtain ⟨e1, q1⟩ := q1
  have q1 := XP.q q1 hG
  have G1 := q1.2.2
  have M1 := hM.far q1.2.1
  refine J_aload_n dL_law_871 rfl ?_
  refine J_arg (k := 1) dL_law_872 dL_law_873 dL_law_874 dL_law_875 dL_law_876 (by omega) hL ?_
  refine J_arg (k := 2) dL_law_877 dL_law_878 dL_law_879 dL_law_880 dL_law_881 (by omega) hL ?_
  refine J_bool dL_law_882 dL_law_885 dL_law_886 dL_law_889 ?_
  refine J_cWL (ci := 10) (c := 158) (as := [pI (xs (7 * j + 1)), pI (nI (bz (xs (7 * j + 2))))]) (st := [pL v]) dL_law_890 lL_102 okX10_think vX10_think s158 (by decide) rfl rfl rfl (Nat.le_of_ble_eq_true rfl) ⟨Nat.le_of_ble_eq_true rfl, Nat.le_of_ble_eq_true rfl⟩ crW (c_X10_think G1 M1 hW bz_lt) (fun w h2 q2 => ?_)
  obtain ⟨e2, q2⟩ := q2
  refine J_lcmp dL_law_893 ?_
  exact J_lif_eq dL_law_894 (fun _ => kk _ _ (S.next q1 q2 hW.emp)) (fun z => absurd (e1.trans e2.symm) z)
theorem law_c20 {j : Nat} {A : AS} {h : PH} (hL : Ln ≤ 3584) (hj : 7 * j + 7 ≤ Ln) (S : St h A) (kk : ∀ A' h', St h' A' → J mL_law room_1 [] (ZW Ln xs) 1332 (LW j) [] SHF h') : J mL_law room_1 [] (ZW Ln xs) 899 (LW j) [] SHF h := by
  obtain ⟨hG, ⟨p, hX⟩, hM, hW⟩ := id S
  refine J_aload_n dL_law_899 rfl ?_
  refine J_arg (k := 1) dL_law_900 dL_law_901 dL_law_902 dL_law_903 dL_law_904 (by omega) hL ?_
  refine J_cWI (ci := 9) (c := 0) (as := [pI (xs (7 * j + 1))]) (st := []) dL_law_905 lL_103 okX9_after vX9_after s0 (by decide) rfl rfl rfl (Nat.le_of_ble_eq_true rfl) ⟨Nat.le_of_ble_eq_true rfl, Nat.le_of_ble_eq_true rfl⟩ crW (c_X9_after hG hX hW) (fun v h1 q1 => ?_)
  obtain ⟨e1, q1⟩ := q1
  have q1 := XP.q q1 hG
  have G1 := q1.2.2
  have M1 := hM.far q1.2.1
  refine J_aload_n dL_law_908 rfl ?_
  refine J_arg (k := 1) dL_law_909 dL_law_910 dL_law_911 dL_law_912 dL_law_913 (by omega) hL ?_
  refine J_cWI (ci := 10) (c := 158) (as := [pI (xs (7 * j + 1))]) (st := [pI v]) dL_law_914 lL_106 okX10_after vX10_after s158 (by decide) rfl rfl rfl (Nat.le_of_ble_eq_true rfl) ⟨Nat.le_of_ble_eq_true rfl, Nat.le_of_ble_eq_true rfl⟩ crW (c_X10_after G1 M1 hW) (fun w h2 q2 => ?_)
  obtain ⟨e2, q2⟩ := q2
  exact J_icmp_eq dL_law_917 (fun _ => kk _ _ (S.next q1 q2 hW.emp)) (fun z => absurd (e1.trans e2.symm) z)
theorem law_c21 {j : Nat} {A : AS} {h : PH} (hL : Ln ≤ 3584) (hj : 7 * j + 7 ≤ Ln) (S : St h A) (kk : ∀ A' h', St h' A' → J mL_law room_1 [] (ZW Ln xs) 1332 (LW j) [] SHF h') : J mL_law room_1 [] (ZW Ln xs) 922 (LW j) [] SHF h := by
  obtain ⟨hG, ⟨p, hX⟩, hM, hW⟩ := id S
  refine J_aload_n dL_law_922 rfl ?_
  refine J_arg (k := 1) dL_law_923 dL_law_924 dL_law_925 dL_law_926 dL_law_927 (by omega) hL ?_
  refine J_arg (k := 2) dL_law_928 dL_law_929 dL_law_930 dL_law_931 dL_law_932 (by omega) hL ?_
  refine J_arg (k := 3) dL_law_933 dL_law_934 dL_law_935 dL_law_936 dL_law_937 (by omega) hL ?_
  refine J_arg (k := 4) dL_law_938 dL_law_939 dL_law_940 dL_law_941 dL_law_942 (by omega) hL ?_
  refine J_arg (k := 5) dL_law_943 dL_law_944 dL_law_945 dL_law_946 dL_law_947 (by omega) hL ?_
  refine J_argB (k := 6) dL_law_948 dL_law_949 dL_law_950 dL_law_952 dL_law_953 (by decide) (by omega) hL ?_
  refine J_cWL (ci := 9) (c := 0) (as := [pI (xs (7 * j + 1)), pI (xs (7 * j + 2)), pI (xs (7 * j + 3)), pI (xs (7 * j + 4)), pI (xs (7 * j + 5)), pI (xs (7 * j + 6))]) (st := []) dL_law_954 lL_107 okX9_sledge vX9_sledge s0 (by decide) rfl rfl rfl (Nat.le_of_ble_eq_true rfl) ⟨Nat.le_of_ble_eq_true rfl, Nat.le_of_ble_eq_true rfl⟩ crW (c_X9_sledge hG hX hW) (fun v h1 q1 => ?_)
  obtain ⟨e1, q1⟩ := q1
  have q1 := XP.q q1 hG
  have G1 := q1.2.2
  have M1 := hM.far q1.2.1
  refine J_aload_n dL_law_957 rfl ?_
  refine J_arg (k := 1) dL_law_958 dL_law_959 dL_law_960 dL_law_961 dL_law_962 (by omega) hL ?_
  refine J_arg (k := 2) dL_law_963 dL_law_964 dL_law_965 dL_law_966 dL_law_967 (by omega) hL ?_
  refine J_arg (k := 3) dL_law_968 dL_law_969 dL_law_970 dL_law_971 dL_law_972 (by omega) hL ?_
  refine J_arg (k := 4) dL_law_973 dL_law_974 dL_law_975 dL_law_976 dL_law_977 (by omega) hL ?_
  refine J_arg (k := 5) dL_law_978 dL_law_979 dL_law_980 dL_law_981 dL_law_982 (by omega) hL ?_
  refine J_argB (k := 6) dL_law_983 dL_law_984 dL_law_985 dL_law_987 dL_law_988 (by decide) (by omega) hL ?_
  refine J_cWL (ci := 10) (c := 158) (as := [pI (xs (7 * j + 1)), pI (xs (7 * j + 2)), pI (xs (7 * j + 3)), pI (xs (7 * j + 4)), pI (xs (7 * j + 5)), pI (xs (7 * j + 6))]) (st := [pL v]) dL_law_989 lL_111 okX10_sledge_ vX10_sledge_ s158 (by decide) rfl rfl rfl (Nat.le_of_ble_eq_true rfl) ⟨Nat.le_of_ble_eq_true rfl, Nat.le_of_ble_eq_true rfl⟩ crW (c_X10_sledge_ G1 M1 hW) (fun w h2 q2 => ?_)
  obtain ⟨e2, q2⟩ := q2
  refine J_lcmp dL_law_992 ?_
  exact J_lif_eq dL_law_993 (fun _ => kk _ _ (S.next q1 q2 hW)) (fun z => absurd (e1.trans e2.symm) z)
end JX
