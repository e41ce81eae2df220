/-! the law, call by call -/
section LAWO
variable {X : ab_X} {l : Launch} {VX VM : ab_V} {b L : Nat} {ss : Nat → Int32} {cs sl k : Nat} {x m : ab_mem}
set_option maxRecDepth 20000 in
theorem kL_X7_heard : KV RL wsL_law room_1 85 RX7 yX7_heard wsX7_heard rm_X7_heard 2 := ⟨_, _, _, _, gL_law_X7_heard, rfl, rfl, rfl, by decide +kernel, by decide⟩
set_option maxRecDepth 20000 in
theorem kL_X8_heard : KV RL wsL_law room_1 88 RX8 yX8_heard wsX8_heard rm_X8_heard 2 := ⟨_, _, _, _, gL_law_X8_heard, rfl, rfl, rfl, by decide +kernel, by decide⟩
set_option maxHeartbeats 4000000 in
set_option maxRecDepth 100000 in
theorem lo_heard (K : LC X l room_1 VX VM b L ss cs sl) (hk : k + 6 ≤ L) (h : RR x m) (nx : ∀ x2 m2, RR x2 m2 → GJ X (LPh X VX VM x2 m2) 4 1248 (lL b VX VM k) [] cs sl) : GJ X (LPh X VX VM x m) 4 676 (lL b VX VM k) [] cs sl := by
  obtain ⟨PX, PM, c1, c2, c3⟩ := op_heard (l := l) K.2.2.1.1 K.2.2.1.2 h (ss (nI k + 1).toNatClampNeg) (ss (nI k + 2).toNatClampNeg)
  refine g_aload_n K.1.1 dL_law_676 rfl ?_
  refine g_aload_n K.1.1 dL_law_677 rfl ?_
  refine g_iload_n K.1.1 dL_law_678 rfl ?_
  refine g_iconst (v := 1) K.1.1 dL_law_679 (by decide) ?_
  refine g_iadd K.1.1 dL_law_680 ?_
  refine L_sld K (L_in K hk 1 (by decide)) dL_law_681 ?_
  refine g_aload_n K.1.1 dL_law_682 rfl ?_
  refine g_iload_n K.1.1 dL_law_683 rfl ?_
  refine g_iconst (v := 2) K.1.1 dL_law_684 (by decide) ?_
  refine g_iadd K.1.1 dL_law_685 ?_
  refine L_sld K (L_in K hk 2 (by decide)) dL_law_686 ?_
  refine L_callXi K kL_X7_heard c1 rfl rfl (Nat.le_of_ble_eq_true rfl) dL_law_687 (fun r1 x2 p1 => ?_)
  refine g_aload_n K.1.1 dL_law_690 rfl ?_
  refine g_aload_n K.1.1 dL_law_691 rfl ?_
  refine g_iload_n K.1.1 dL_law_692 rfl ?_
  refine g_iconst (v := 1) K.1.1 dL_law_693 (by decide) ?_
  refine g_iadd K.1.1 dL_law_694 ?_
  refine L_sld K (L_in K hk 1 (by decide)) dL_law_695 ?_
  refine g_aload_n K.1.1 dL_law_696 rfl ?_
  refine g_iload_n K.1.1 dL_law_697 rfl ?_
  refine g_iconst (v := 2) K.1.1 dL_law_698 (by decide) ?_
  refine g_iadd K.1.1 dL_law_699 ?_
  refine L_sld K (L_in K hk 2 (by decide)) dL_law_700 ?_
  refine L_callMi K kL_X8_heard c2 rfl rfl (Nat.le_of_ble_eq_true rfl) dL_law_701 (fun r2 m2 p2 => ?_)
  obtain ⟨e, hR⟩ := c3 _ _ _ _ p1 p2
  exact g_icmp_eq_t (tgt := 1248) K.1.1 dL_law_704 (by decide) e (nx _ _ hR)
set_option maxRecDepth 20000 in
theorem kL_X7_quiet : KV RL wsL_law room_1 89 RX7 yX7_quiet wsX7_quiet rm_X7_quiet 4 := ⟨_, _, _, _, gL_law_X7_quiet, rfl, rfl, rfl, by decide +kernel, by decide⟩
set_option maxRecDepth 20000 in
theorem kL_X8_quiet : KV RL wsL_law room_1 93 RX8 yX8_quiet wsX8_quiet rm_X8_quiet 4 := ⟨_, _, _, _, gL_law_X8_quiet, rfl, rfl, rfl, by decide +kernel, by decide⟩
set_option maxHeartbeats 4000000 in
set_option maxRecDepth 100000 in
theorem lo_quiet (K : LC X l room_1 VX VM b L ss cs sl) (hk : k + 6 ≤ L) (h : RR x m) (nx : ∀ x2 m2, RR x2 m2 → GJ X (LPh X VX VM x2 m2) 4 1248 (lL b VX VM k) [] cs sl) : GJ X (LPh X VX VM x m) 4 709 (lL b VX VM k) [] cs sl := by
  obtain ⟨PX, PM, c1, c2, c3⟩ := op_quiet (l := l) K.2.2.1.1 K.2.2.1.2 h (ss (nI k + 1).toNatClampNeg) (ss (nI k + 2).toNatClampNeg) (ss (nI k + 3).toNatClampNeg) (ss (nI k + 4).toNatClampNeg)
  refine g_aload_n K.1.1 dL_law_709 rfl ?_
  refine g_aload_n K.1.1 dL_law_710 rfl ?_
  refine g_iload_n K.1.1 dL_law_711 rfl ?_
  refine g_iconst (v := 1) K.1.1 dL_law_712 (by decide) ?_
  refine g_iadd K.1.1 dL_law_713 ?_
  refine L_sld K (L_in K hk 1 (by decide)) dL_law_714 ?_
  refine g_aload_n K.1.1 dL_law_715 rfl ?_
  refine g_iload_n K.1.1 dL_law_716 rfl ?_
  refine g_iconst (v := 2) K.1.1 dL_law_717 (by decide) ?_
  refine g_iadd K.1.1 dL_law_718 ?_
  refine L_sld K (L_in K hk 2 (by decide)) dL_law_719 ?_
  refine g_aload_n K.1.1 dL_law_720 rfl ?_
  refine g_iload_n K.1.1 dL_law_721 rfl ?_
  refine g_iconst (v := 3) K.1.1 dL_law_722 (by decide) ?_
  refine g_iadd K.1.1 dL_law_723 ?_
  refine L_sld K (L_in K hk 3 (by decide)) dL_law_724 ?_
  refine g_aload_n K.1.1 dL_law_725 rfl ?_
  refine g_iload_n K.1.1 dL_law_726 rfl ?_
  refine g_iconst (v := 4) K.1.1 dL_law_727 (by decide) ?_
  refine g_iadd K.1.1 dL_law_728 ?_
  refine L_sld K (L_in K hk 4 (by decide)) dL_law_729 ?_
  refine L_callXi K kL_X7_quiet c1 rfl rfl (Nat.le_of_ble_eq_true rfl) dL_law_730 (fun r1 x2 p1 => ?_)
  refine g_aload_n K.1.1 dL_law_733 rfl ?_
  refine g_aload_n K.1.1 dL_law_734 rfl ?_
  refine g_iload_n K.1.1 dL_law_735 rfl ?_
  refine g_iconst (v := 1) K.1.1 dL_law_736 (by decide) ?_
  refine g_iadd K.1.1 dL_law_737 ?_
  refine L_sld K (L_in K hk 1 (by decide)) dL_law_738 ?_
  refine g_aload_n K.1.1 dL_law_739 rfl ?_
  refine g_iload_n K.1.1 dL_law_740 rfl ?_
  refine g_iconst (v := 2) K.1.1 dL_law_741 (by decide) ?_
  refine g_iadd K.1.1 dL_law_742 ?_
  refine L_sld K (L_in K hk 2 (by decide)) dL_law_743 ?_
  refine g_aload_n K.1.1 dL_law_744 rfl ?_
  refine g_iload_n K.1.1 dL_law_745 rfl ?_
  refine g_iconst (v := 3) K.1.1 dL_law_746 (by decide) ?_
  refine g_iadd K.1.1 dL_law_747 ?_
  refine L_sld K (L_in K hk 3 (by decide)) dL_law_748 ?_
  refine g_aload_n K.1.1 dL_law_749 rfl ?_
  refine g_iload_n K.1.1 dL_law_750 rfl ?_
  refine g_iconst (v := 4) K.1.1 dL_law_751 (by decide) ?_
  refine g_iadd K.1.1 dL_law_752 ?_
  refine L_sld K (L_in K hk 4 (by decide)) dL_law_753 ?_
  refine L_callMi K kL_X8_quiet c2 rfl rfl (Nat.le_of_ble_eq_true rfl) dL_law_754 (fun r2 m2 p2 => ?_)
  obtain ⟨e, hR⟩ := c3 _ _ _ _ p1 p2
  exact g_icmp_eq_t (tgt := 1248) K.1.1 dL_law_757 (by decide) e (nx _ _ hR)
set_option maxRecDepth 20000 in
theorem kL_X7_force : KV RL wsL_law room_1 94 RX7 yX7_force wsX7_force rm_X7_force 3 := ⟨_, _, _, _, gL_law_X7_force, rfl, rfl, rfl, by decide +kernel, by decide⟩
set_option maxRecDepth 20000 in
theorem kL_X8_force : KV RL wsL_law room_1 98 RX8 yX8_force wsX8_force rm_X8_force 3 := ⟨_, _, _, _, gL_law_X8_force, rfl, rfl, rfl, by decide +kernel, by decide⟩
set_option maxHeartbeats 4000000 in
set_option maxRecDepth 100000 in
theorem lo_force (K : LC X l room_1 VX VM b L ss cs sl) (hk : k + 6 ≤ L) (h : RR x m) (nx : ∀ x2 m2, RR x2 m2 → GJ X (LPh X VX VM x2 m2) 4 1248 (lL b VX VM k) [] cs sl) : GJ X (LPh X VX VM x m) 4 762 (lL b VX VM k) [] cs sl := by
  obtain ⟨PX, PM, c1, c2, c3⟩ := op_force (l := l) K.2.2.1.1 K.2.2.1.2 h (ss (nI k + 1).toNatClampNeg) (ss (nI k + 2).toNatClampNeg) (ss (nI k + 3).toNatClampNeg)
  refine g_aload_n K.1.1 dL_law_762 rfl ?_
  refine g_aload_n K.1.1 dL_law_763 rfl ?_
  refine g_iload_n K.1.1 dL_law_764 rfl ?_
  refine g_iconst (v := 1) K.1.1 dL_law_765 (by decide) ?_
  refine g_iadd K.1.1 dL_law_766 ?_
  refine L_sld K (L_in K hk 1 (by decide)) dL_law_767 ?_
  refine g_aload_n K.1.1 dL_law_768 rfl ?_
  refine g_iload_n K.1.1 dL_law_769 rfl ?_
  refine g_iconst (v := 2) K.1.1 dL_law_770 (by decide) ?_
  refine g_iadd K.1.1 dL_law_771 ?_
  refine L_sld K (L_in K hk 2 (by decide)) dL_law_772 ?_
  refine g_aload_n K.1.1 dL_law_773 rfl ?_
  refine g_iload_n K.1.1 dL_law_774 rfl ?_
  refine g_iconst (v := 3) K.1.1 dL_law_775 (by decide) ?_
  refine g_iadd K.1.1 dL_law_776 ?_
  refine L_sld K (L_in K hk 3 (by decide)) dL_law_777 ?_
  refine L_callXi K kL_X7_force c1 rfl rfl (Nat.le_of_ble_eq_true rfl) dL_law_778 (fun r1 x2 p1 => ?_)
  refine g_aload_n K.1.1 dL_law_781 rfl ?_
  refine g_aload_n K.1.1 dL_law_782 rfl ?_
  refine g_iload_n K.1.1 dL_law_783 rfl ?_
  refine g_iconst (v := 1) K.1.1 dL_law_784 (by decide) ?_
  refine g_iadd K.1.1 dL_law_785 ?_
  refine L_sld K (L_in K hk 1 (by decide)) dL_law_786 ?_
  refine g_aload_n K.1.1 dL_law_787 rfl ?_
  refine g_iload_n K.1.1 dL_law_788 rfl ?_
  refine g_iconst (v := 2) K.1.1 dL_law_789 (by decide) ?_
  refine g_iadd K.1.1 dL_law_790 ?_
  refine L_sld K (L_in K hk 2 (by decide)) dL_law_791 ?_
  refine g_aload_n K.1.1 dL_law_792 rfl ?_
  refine g_iload_n K.1.1 dL_law_793 rfl ?_
  refine g_iconst (v := 3) K.1.1 dL_law_794 (by decide) ?_
  refine g_iadd K.1.1 dL_law_795 ?_
  refine L_sld K (L_in K hk 3 (by decide)) dL_law_796 ?_
  refine L_callMi K kL_X8_force c2 rfl rfl (Nat.le_of_ble_eq_true rfl) dL_law_797 (fun r2 m2 p2 => ?_)
  obtain ⟨e, hR⟩ := c3 _ _ _ _ p1 p2
  exact g_icmp_eq_t (tgt := 1248) K.1.1 dL_law_800 (by decide) e (nx _ _ hR)
set_option maxRecDepth 20000 in
theorem kL_X7_seen : KV RL wsL_law room_1 99 RX7 yX7_seen wsX7_seen rm_X7_seen 3 := ⟨_, _, _, _, gL_law_X7_seen, rfl, rfl, rfl, by decide +kernel, by decide⟩
set_option maxRecDepth 20000 in
theorem kL_X8_seen : KV RL wsL_law room_1 102 RX8 yX8_seen wsX8_seen rm_X8_seen 3 := ⟨_, _, _, _, gL_law_X8_seen, rfl, rfl, rfl, by decide +kernel, by decide⟩
set_option maxHeartbeats 4000000 in
set_option maxRecDepth 100000 in
theorem lo_seen (K : LC X l room_1 VX VM b L ss cs sl) (hk : k + 6 ≤ L) (h : RR x m) (nx : ∀ x2 m2, RR x2 m2 → GJ X (LPh X VX VM x2 m2) 4 1248 (lL b VX VM k) [] cs sl) : GJ X (LPh X VX VM x m) 4 805 (lL b VX VM k) [] cs sl := by
  obtain ⟨PX, PM, c1, c2, c3⟩ := op_seen (l := l) K.2.2.1.1 K.2.2.1.2 h (ss (nI k + 1).toNatClampNeg) (ss (nI k + 2).toNatClampNeg) (ss (nI k + 3).toNatClampNeg)
  refine g_aload_n K.1.1 dL_law_805 rfl ?_
  refine g_aload_n K.1.1 dL_law_806 rfl ?_
  refine g_iload_n K.1.1 dL_law_807 rfl ?_
  refine g_iconst (v := 1) K.1.1 dL_law_808 (by decide) ?_
  refine g_iadd K.1.1 dL_law_809 ?_
  refine L_sld K (L_in K hk 1 (by decide)) dL_law_810 ?_
  refine g_aload_n K.1.1 dL_law_811 rfl ?_
  refine g_iload_n K.1.1 dL_law_812 rfl ?_
  refine g_iconst (v := 2) K.1.1 dL_law_813 (by decide) ?_
  refine g_iadd K.1.1 dL_law_814 ?_
  refine L_sld K (L_in K hk 2 (by decide)) dL_law_815 ?_
  refine g_aload_n K.1.1 dL_law_816 rfl ?_
  refine g_iload_n K.1.1 dL_law_817 rfl ?_
  refine g_iconst (v := 3) K.1.1 dL_law_818 (by decide) ?_
  refine g_iadd K.1.1 dL_law_819 ?_
  refine L_sld K (L_in K hk 3 (by decide)) dL_law_820 ?_
  refine L_callXi K kL_X7_seen c1 rfl rfl (Nat.le_of_ble_eq_true rfl) dL_law_821 (fun r1 x2 p1 => ?_)
  refine g_aload_n K.1.1 dL_law_824 rfl ?_
  refine g_aload_n K.1.1 dL_law_825 rfl ?_
  refine g_iload_n K.1.1 dL_law_826 rfl ?_
  refine g_iconst (v := 1) K.1.1 dL_law_827 (by decide) ?_
  refine g_iadd K.1.1 dL_law_828 ?_
  refine L_sld K (L_in K hk 1 (by decide)) dL_law_829 ?_
  refine g_aload_n K.1.1 dL_law_830 rfl ?_
  refine g_iload_n K.1.1 dL_law_831 rfl ?_
  refine g_iconst (v := 2) K.1.1 dL_law_832 (by decide) ?_
  refine g_iadd K.1.1 dL_law_833 ?_
  refine L_sld K (L_in K hk 2 (by decide)) dL_law_834 ?_
  refine g_aload_n K.1.1 dL_law_835 rfl ?_
  refine g_iload_n K.1.1 dL_law_836 rfl ?_
  refine g_iconst (v := 3) K.1.1 dL_law_837 (by decide) ?_
  refine g_iadd K.1.1 dL_law_838 ?_
  refine L_sld K (L_in K hk 3 (by decide)) dL_law_839 ?_
  refine L_callMi K kL_X8_seen c2 rfl rfl (Nat.le_of_ble_eq_true rfl) dL_law_840 (fun r2 m2 p2 => ?_)
  obtain ⟨e, hR⟩ := c3 _ _ _ _ p1 p2
  exact g_icmp_eq_t (tgt := 1248) K.1.1 dL_law_843 (by decide) e (nx _ _ hR)
set_option maxRecDepth 20000 in
theorem kL_X7_forget : KV RL wsL_law room_1 103 RX7 yX7_forget wsX7_forget rm_X7_forget 0 := ⟨_, _, _, _, gL_law_X7_forget, rfl, rfl, rfl, by decide +kernel, by decide⟩
set_option maxRecDepth 20000 in
theorem kL_X8_forget : KV RL wsL_law room_1 106 RX8 yX8_forget wsX8_forget rm_X8_forget 0 := ⟨_, _, _, _, gL_law_X8_forget, rfl, rfl, rfl, by decide +kernel, by decide⟩
set_option maxHeartbeats 4000000 in
set_option maxRecDepth 100000 in
theorem lo_forget (K : LC X l room_1 VX VM b L ss cs sl) (hk : k + 6 ≤ L) (h : RR x m) (nx : ∀ x2 m2, RR x2 m2 → GJ X (LPh X VX VM x2 m2) 4 1248 (lL b VX VM k) [] cs sl) : GJ X (LPh X VX VM x m) 4 848 (lL b VX VM k) [] cs sl := by
  obtain ⟨PX, PM, c1, c2, c3⟩ := op_forget (l := l) K.2.2.1.1 K.2.2.1.2 h
  refine g_aload_n K.1.1 dL_law_848 rfl ?_
  refine L_callXi K kL_X7_forget c1 rfl rfl (Nat.le_of_ble_eq_true rfl) dL_law_849 (fun r1 x2 p1 => ?_)
  refine g_aload_n K.1.1 dL_law_852 rfl ?_
  refine L_callMi K kL_X8_forget c2 rfl rfl (Nat.le_of_ble_eq_true rfl) dL_law_853 (fun r2 m2 p2 => ?_)
  obtain ⟨e, hR⟩ := c3 _ _ _ _ p1 p2
  exact g_icmp_eq_t (tgt := 1248) K.1.1 dL_law_856 (by decide) e (nx _ _ hR)
set_option maxRecDepth 20000 in
theorem kL_X7_fright : KV RL wsL_law room_1 107 RX7 yX7_fright wsX7_fright rm_X7_fright 1 := ⟨_, _, _, _, gL_law_X7_fright, rfl, rfl, rfl, by decide +kernel, by decide⟩
set_option maxRecDepth 20000 in
theorem kL_X8_fright : KV RL wsL_law room_1 110 RX8 yX8_fright wsX8_fright rm_X8_fright 1 := ⟨_, _, _, _, gL_law_X8_fright, rfl, rfl, rfl, by decide +kernel, by decide⟩
set_option maxHeartbeats 4000000 in
set_option maxRecDepth 100000 in
theorem lo_fright (K : LC X l room_1 VX VM b L ss cs sl) (hk : k + 6 ≤ L) (h : RR x m) (nx : ∀ x2 m2, RR x2 m2 → GJ X (LPh X VX VM x2 m2) 4 1248 (lL b VX VM k) [] cs sl) : GJ X (LPh X VX VM x m) 4 861 (lL b VX VM k) [] cs sl := by
  obtain ⟨PX, PM, c1, c2, c3⟩ := op_fright (l := l) K.2.2.1.1 K.2.2.1.2 h (ss (nI k + 1).toNatClampNeg)
  refine g_aload_n K.1.1 dL_law_861 rfl ?_
  refine g_aload_n K.1.1 dL_law_862 rfl ?_
  refine g_iload_n K.1.1 dL_law_863 rfl ?_
  refine g_iconst (v := 1) K.1.1 dL_law_864 (by decide) ?_
  refine g_iadd K.1.1 dL_law_865 ?_
  refine L_sld K (L_in K hk 1 (by decide)) dL_law_866 ?_
  refine L_callXi K kL_X7_fright c1 rfl rfl (Nat.le_of_ble_eq_true rfl) dL_law_867 (fun r1 x2 p1 => ?_)
  refine g_aload_n K.1.1 dL_law_870 rfl ?_
  refine g_aload_n K.1.1 dL_law_871 rfl ?_
  refine g_iload_n K.1.1 dL_law_872 rfl ?_
  refine g_iconst (v := 1) K.1.1 dL_law_873 (by decide) ?_
  refine g_iadd K.1.1 dL_law_874 ?_
  refine L_sld K (L_in K hk 1 (by decide)) dL_law_875 ?_
  refine L_callMi K kL_X8_fright c2 rfl rfl (Nat.le_of_ble_eq_true rfl) dL_law_876 (fun r2 m2 p2 => ?_)
  obtain ⟨e, hR⟩ := c3 _ _ _ _ p1 p2
  exact g_icmp_eq_t (tgt := 1248) K.1.1 dL_law_879 (by decide) e (nx _ _ hR)
set_option maxRecDepth 20000 in
theorem kL_X7_unlike : KV RL wsL_law room_1 111 RX7 yX7_unlike wsX7_unlike rm_X7_unlike 0 := ⟨_, _, _, _, gL_law_X7_unlike, rfl, rfl, rfl, by decide +kernel, by decide⟩
set_option maxRecDepth 20000 in
theorem kL_X8_unlike : KV RL wsL_law room_1 114 RX8 yX8_unlike wsX8_unlike rm_X8_unlike 0 := ⟨_, _, _, _, gL_law_X8_unlike, rfl, rfl, rfl, by decide +kernel, by decide⟩
set_option maxHeartbeats 4000000 in
set_option maxRecDepth 100000 in
theorem lo_unlike (K : LC X l room_1 VX VM b L ss cs sl) (hk : k + 6 ≤ L) (h : RR x m) (nx : ∀ x2 m2, RR x2 m2 → GJ X (LPh X VX VM x2 m2) 4 1248 (lL b VX VM k) [] cs sl) : GJ X (LPh X VX VM x m) 4 884 (lL b VX VM k) [] cs sl := by
  obtain ⟨PX, PM, c1, c2, c3⟩ := op_unlike (l := l) K.2.2.1.1 K.2.2.1.2 h
  refine g_aload_n K.1.1 dL_law_884 rfl ?_
  refine L_callXi K kL_X7_unlike c1 rfl rfl (Nat.le_of_ble_eq_true rfl) dL_law_885 (fun r1 x2 p1 => ?_)
  refine g_aload_n K.1.1 dL_law_888 rfl ?_
  refine L_callMi K kL_X8_unlike c2 rfl rfl (Nat.le_of_ble_eq_true rfl) dL_law_889 (fun r2 m2 p2 => ?_)
  obtain ⟨e, hR⟩ := c3 _ _ _ _ p1 p2
  exact g_icmp_eq_t (tgt := 1248) K.1.1 dL_law_892 (by decide) e (nx _ _ hR)
set_option maxRecDepth 20000 in
theorem kL_X7_parrot : KV RL wsL_law room_1 115 RX7 yX7_parrot wsX7_parrot rm_X7_parrot 1 := ⟨_, _, _, _, gL_law_X7_parrot, rfl, rfl, rfl, by decide +kernel, by decide⟩
set_option maxRecDepth 20000 in
theorem kL_X8_parrot : KV RL wsL_law room_1 118 RX8 yX8_parrot wsX8_parrot rm_X8_parrot 1 := ⟨_, _, _, _, gL_law_X8_parrot, rfl, rfl, rfl, by decide +kernel, by decide⟩
set_option maxHeartbeats 4000000 in
set_option maxRecDepth 100000 in
theorem lo_parrot (K : LC X l room_1 VX VM b L ss cs sl) (hk : k + 6 ≤ L) (h : RR x m) (nx : ∀ x2 m2, RR x2 m2 → GJ X (LPh X VX VM x2 m2) 4 1248 (lL b VX VM k) [] cs sl) : GJ X (LPh X VX VM x m) 4 897 (lL b VX VM k) [] cs sl := by
  obtain ⟨PX, PM, c1, c2, c3⟩ := op_parrot (l := l) K.2.2.1.1 K.2.2.1.2 h (ss (nI k + 1).toNatClampNeg)
  refine g_aload_n K.1.1 dL_law_897 rfl ?_
  refine g_aload_n K.1.1 dL_law_898 rfl ?_
  refine g_iload_n K.1.1 dL_law_899 rfl ?_
  refine g_iconst (v := 1) K.1.1 dL_law_900 (by decide) ?_
  refine g_iadd K.1.1 dL_law_901 ?_
  refine L_sld K (L_in K hk 1 (by decide)) dL_law_902 ?_
  refine L_callXi K kL_X7_parrot c1 rfl rfl (Nat.le_of_ble_eq_true rfl) dL_law_903 (fun r1 x2 p1 => ?_)
  refine g_aload_n K.1.1 dL_law_906 rfl ?_
  refine g_aload_n K.1.1 dL_law_907 rfl ?_
  refine g_iload_n K.1.1 dL_law_908 rfl ?_
  refine g_iconst (v := 1) K.1.1 dL_law_909 (by decide) ?_
  refine g_iadd K.1.1 dL_law_910 ?_
  refine L_sld K (L_in K hk 1 (by decide)) dL_law_911 ?_
  refine L_callMi K kL_X8_parrot c2 rfl rfl (Nat.le_of_ble_eq_true rfl) dL_law_912 (fun r2 m2 p2 => ?_)
  obtain ⟨e, hR⟩ := c3 _ _ _ _ p1 p2
  exact g_icmp_eq_t (tgt := 1248) K.1.1 dL_law_915 (by decide) e (nx _ _ hR)
set_option maxRecDepth 20000 in
theorem kL_X7_trained : KV RL wsL_law room_1 119 RX7 yX7_trained wsX7_trained rm_X7_trained 2 := ⟨_, _, _, _, gL_law_X7_trained, rfl, rfl, rfl, by decide +kernel, by decide⟩
set_option maxRecDepth 20000 in
theorem kL_X8_trained : KV RL wsL_law room_1 122 RX8 yX8_trained wsX8_trained rm_X8_trained 2 := ⟨_, _, _, _, gL_law_X8_trained, rfl, rfl, rfl, by decide +kernel, by decide⟩
set_option maxHeartbeats 4000000 in
set_option maxRecDepth 100000 in
theorem lo_trained (K : LC X l room_1 VX VM b L ss cs sl) (hk : k + 6 ≤ L) (h : RR x m) (nx : ∀ x2 m2, RR x2 m2 → GJ X (LPh X VX VM x2 m2) 4 1248 (lL b VX VM k) [] cs sl) : GJ X (LPh X VX VM x m) 4 920 (lL b VX VM k) [] cs sl := by
  obtain ⟨PX, PM, c1, c2, c3⟩ := op_trained (l := l) K.2.2.1.1 K.2.2.1.2 h (ss (nI k + 1).toNatClampNeg) (ss (nI k + 2).toNatClampNeg)
  refine g_aload_n K.1.1 dL_law_920 rfl ?_
  refine g_aload_n K.1.1 dL_law_921 rfl ?_
  refine g_iload_n K.1.1 dL_law_922 rfl ?_
  refine g_iconst (v := 1) K.1.1 dL_law_923 (by decide) ?_
  refine g_iadd K.1.1 dL_law_924 ?_
  refine L_sld K (L_in K hk 1 (by decide)) dL_law_925 ?_
  refine g_aload_n K.1.1 dL_law_926 rfl ?_
  refine g_iload_n K.1.1 dL_law_927 rfl ?_
  refine g_iconst (v := 2) K.1.1 dL_law_928 (by decide) ?_
  refine g_iadd K.1.1 dL_law_929 ?_
  refine L_sld K (L_in K hk 2 (by decide)) dL_law_930 ?_
  refine L_callXi K kL_X7_trained c1 rfl rfl (Nat.le_of_ble_eq_true rfl) dL_law_931 (fun r1 x2 p1 => ?_)
  refine g_aload_n K.1.1 dL_law_934 rfl ?_
  refine g_aload_n K.1.1 dL_law_935 rfl ?_
  refine g_iload_n K.1.1 dL_law_936 rfl ?_
  refine g_iconst (v := 1) K.1.1 dL_law_937 (by decide) ?_
  refine g_iadd K.1.1 dL_law_938 ?_
  refine L_sld K (L_in K hk 1 (by decide)) dL_law_939 ?_
  refine g_aload_n K.1.1 dL_law_940 rfl ?_
  refine g_iload_n K.1.1 dL_law_941 rfl ?_
  refine g_iconst (v := 2) K.1.1 dL_law_942 (by decide) ?_
  refine g_iadd K.1.1 dL_law_943 ?_
  refine L_sld K (L_in K hk 2 (by decide)) dL_law_944 ?_
  refine L_callMi K kL_X8_trained c2 rfl rfl (Nat.le_of_ble_eq_true rfl) dL_law_945 (fun r2 m2 p2 => ?_)
  obtain ⟨e, hR⟩ := c3 _ _ _ _ p1 p2
  exact g_icmp_eq_t (tgt := 1248) K.1.1 dL_law_948 (by decide) e (nx _ _ hR)
set_option maxRecDepth 20000 in
theorem kL_X7_sheet : KV RL wsL_law room_1 123 RX7 yX7_sheet wsX7_sheet rm_X7_sheet 3 := ⟨_, _, _, _, gL_law_X7_sheet, rfl, rfl, rfl, by decide +kernel, by decide⟩
set_option maxRecDepth 20000 in
theorem kL_X8_sheet : KV RL wsL_law room_1 126 RX8 yX8_sheet wsX8_sheet rm_X8_sheet 3 := ⟨_, _, _, _, gL_law_X8_sheet, rfl, rfl, rfl, by decide +kernel, by decide⟩
set_option maxHeartbeats 4000000 in
set_option maxRecDepth 100000 in
theorem lo_sheet (K : LC X l room_1 VX VM b L ss cs sl) (hk : k + 6 ≤ L) (h : RR x m) (nx : ∀ x2 m2, RR x2 m2 → GJ X (LPh X VX VM x2 m2) 4 1248 (lL b VX VM k) [] cs sl) : GJ X (LPh X VX VM x m) 4 953 (lL b VX VM k) [] cs sl := by
  obtain ⟨PX, PM, c1, c2, c3⟩ := op_sheet (l := l) K.2.2.1.1 K.2.2.1.2 h (ss (nI k + 1).toNatClampNeg) (ss (nI k + 2).toNatClampNeg) (ss (nI k + 3).toNatClampNeg)
  refine g_aload_n K.1.1 dL_law_953 rfl ?_
  refine g_aload_n K.1.1 dL_law_954 rfl ?_
  refine g_iload_n K.1.1 dL_law_955 rfl ?_
  refine g_iconst (v := 1) K.1.1 dL_law_956 (by decide) ?_
  refine g_iadd K.1.1 dL_law_957 ?_
  refine L_sld K (L_in K hk 1 (by decide)) dL_law_958 ?_
  refine g_aload_n K.1.1 dL_law_959 rfl ?_
  refine g_iload_n K.1.1 dL_law_960 rfl ?_
  refine g_iconst (v := 2) K.1.1 dL_law_961 (by decide) ?_
  refine g_iadd K.1.1 dL_law_962 ?_
  refine L_sld K (L_in K hk 2 (by decide)) dL_law_963 ?_
  refine g_aload_n K.1.1 dL_law_964 rfl ?_
  refine g_iload_n K.1.1 dL_law_965 rfl ?_
  refine g_iconst (v := 3) K.1.1 dL_law_966 (by decide) ?_
  refine g_iadd K.1.1 dL_law_967 ?_
  refine L_sld K (L_in K hk 3 (by decide)) dL_law_968 ?_
  refine L_callXi K kL_X7_sheet c1 rfl rfl (Nat.le_of_ble_eq_true rfl) dL_law_969 (fun r1 x2 p1 => ?_)
  refine g_aload_n K.1.1 dL_law_972 rfl ?_
  refine g_aload_n K.1.1 dL_law_973 rfl ?_
  refine g_iload_n K.1.1 dL_law_974 rfl ?_
  refine g_iconst (v := 1) K.1.1 dL_law_975 (by decide) ?_
  refine g_iadd K.1.1 dL_law_976 ?_
  refine L_sld K (L_in K hk 1 (by decide)) dL_law_977 ?_
  refine g_aload_n K.1.1 dL_law_978 rfl ?_
  refine g_iload_n K.1.1 dL_law_979 rfl ?_
  refine g_iconst (v := 2) K.1.1 dL_law_980 (by decide) ?_
  refine g_iadd K.1.1 dL_law_981 ?_
  refine L_sld K (L_in K hk 2 (by decide)) dL_law_982 ?_
  refine g_aload_n K.1.1 dL_law_983 rfl ?_
  refine g_iload_n K.1.1 dL_law_984 rfl ?_
  refine g_iconst (v := 3) K.1.1 dL_law_985 (by decide) ?_
  refine g_iadd K.1.1 dL_law_986 ?_
  refine L_sld K (L_in K hk 3 (by decide)) dL_law_987 ?_
  refine L_callMi K kL_X8_sheet c2 rfl rfl (Nat.le_of_ble_eq_true rfl) dL_law_988 (fun r2 m2 p2 => ?_)
  obtain ⟨e, hR⟩ := c3 _ _ _ _ p1 p2
  exact g_icmp_eq_t (tgt := 1248) K.1.1 dL_law_991 (by decide) e (nx _ _ hR)
set_option maxRecDepth 20000 in
theorem kL_X7_lose : KV RL wsL_law room_1 127 RX7 yX7_lose wsX7_lose rm_X7_lose 1 := ⟨_, _, _, _, gL_law_X7_lose, rfl, rfl, rfl, by decide +kernel, by decide⟩
set_option maxRecDepth 20000 in
theorem kL_X8_lose : KV RL wsL_law room_1 130 RX8 yX8_lose wsX8_lose rm_X8_lose 1 := ⟨_, _, _, _, gL_law_X8_lose, rfl, rfl, rfl, by decide +kernel, by decide⟩
set_option maxHeartbeats 4000000 in
set_option maxRecDepth 100000 in
theorem lo_lose (K : LC X l room_1 VX VM b L ss cs sl) (hk : k + 6 ≤ L) (h : RR x m) (nx : ∀ x2 m2, RR x2 m2 → GJ X (LPh X VX VM x2 m2) 4 1248 (lL b VX VM k) [] cs sl) : GJ X (LPh X VX VM x m) 4 996 (lL b VX VM k) [] cs sl := by
  obtain ⟨PX, PM, c1, c2, c3⟩ := op_lose (l := l) K.2.2.1.1 K.2.2.1.2 h (ss (nI k + 1).toNatClampNeg)
  refine g_aload_n K.1.1 dL_law_996 rfl ?_
  refine g_aload_n K.1.1 dL_law_997 rfl ?_
  refine g_iload_n K.1.1 dL_law_998 rfl ?_
  refine g_iconst (v := 1) K.1.1 dL_law_999 (by decide) ?_
  refine g_iadd K.1.1 dL_law_1000 ?_
  refine L_sld K (L_in K hk 1 (by decide)) dL_law_1001 ?_
  refine L_callXi K kL_X7_lose c1 rfl rfl (Nat.le_of_ble_eq_true rfl) dL_law_1002 (fun r1 x2 p1 => ?_)
  refine g_aload_n K.1.1 dL_law_1005 rfl ?_
  refine g_aload_n K.1.1 dL_law_1006 rfl ?_
  refine g_iload_n K.1.1 dL_law_1007 rfl ?_
  refine g_iconst (v := 1) K.1.1 dL_law_1008 (by decide) ?_
  refine g_iadd K.1.1 dL_law_1009 ?_
  refine L_sld K (L_in K hk 1 (by decide)) dL_law_1010 ?_
  refine L_callMi K kL_X8_lose c2 rfl rfl (Nat.le_of_ble_eq_true rfl) dL_law_1011 (fun r2 m2 p2 => ?_)
  obtain ⟨e, hR⟩ := c3 _ _ _ _ p1 p2
  exact g_icmp_eq_t (tgt := 1248) K.1.1 dL_law_1014 (by decide) e (nx _ _ hR)
set_option maxRecDepth 20000 in
theorem kL_X7_put : KV RL wsL_law room_1 131 RX7 yX7_put wsX7_put rm_X7_put 4 := ⟨_, _, _, _, gL_law_X7_put, rfl, rfl, rfl, by decide +kernel, by decide⟩
set_option maxRecDepth 20000 in
theorem kL_X8_put : KV RL wsL_law room_1 134 RX8 yX8_put wsX8_put rm_X8_put 4 := ⟨_, _, _, _, gL_law_X8_put, rfl, rfl, rfl, by decide +kernel, by decide⟩
set_option maxHeartbeats 4000000 in
set_option maxRecDepth 100000 in
theorem lo_put (K : LC X l room_1 VX VM b L ss cs sl) (hk : k + 6 ≤ L) (h : RR x m) (nx : ∀ x2 m2, RR x2 m2 → GJ X (LPh X VX VM x2 m2) 4 1248 (lL b VX VM k) [] cs sl) : GJ X (LPh X VX VM x m) 4 1019 (lL b VX VM k) [] cs sl := by
  obtain ⟨PX, PM, c1, c2, c3⟩ := op_put (l := l) K.2.2.1.1 K.2.2.1.2 h (ss (nI k + 1).toNatClampNeg) (ss (nI k + 2).toNatClampNeg) (ss (nI k + 3).toNatClampNeg) (ss (nI k + 4).toNatClampNeg)
  refine g_aload_n K.1.1 dL_law_1019 rfl ?_
  refine g_aload_n K.1.1 dL_law_1020 rfl ?_
  refine g_iload_n K.1.1 dL_law_1021 rfl ?_
  refine g_iconst (v := 1) K.1.1 dL_law_1022 (by decide) ?_
  refine g_iadd K.1.1 dL_law_1023 ?_
  refine L_sld K (L_in K hk 1 (by decide)) dL_law_1024 ?_
  refine g_aload_n K.1.1 dL_law_1025 rfl ?_
  refine g_iload_n K.1.1 dL_law_1026 rfl ?_
  refine g_iconst (v := 2) K.1.1 dL_law_1027 (by decide) ?_
  refine g_iadd K.1.1 dL_law_1028 ?_
  refine L_sld K (L_in K hk 2 (by decide)) dL_law_1029 ?_
  refine g_aload_n K.1.1 dL_law_1030 rfl ?_
  refine g_iload_n K.1.1 dL_law_1031 rfl ?_
  refine g_iconst (v := 3) K.1.1 dL_law_1032 (by decide) ?_
  refine g_iadd K.1.1 dL_law_1033 ?_
  refine L_sld K (L_in K hk 3 (by decide)) dL_law_1034 ?_
  refine g_aload_n K.1.1 dL_law_1035 rfl ?_
  refine g_iload_n K.1.1 dL_law_1036 rfl ?_
  refine g_iconst (v := 4) K.1.1 dL_law_1037 (by decide) ?_
  refine g_iadd K.1.1 dL_law_1038 ?_
  refine L_sld K (L_in K hk 4 (by decide)) dL_law_1039 ?_
  refine L_callXi K kL_X7_put c1 rfl rfl (Nat.le_of_ble_eq_true rfl) dL_law_1040 (fun r1 x2 p1 => ?_)
  refine g_aload_n K.1.1 dL_law_1043 rfl ?_
  refine g_aload_n K.1.1 dL_law_1044 rfl ?_
  refine g_iload_n K.1.1 dL_law_1045 rfl ?_
  refine g_iconst (v := 1) K.1.1 dL_law_1046 (by decide) ?_
  refine g_iadd K.1.1 dL_law_1047 ?_
  refine L_sld K (L_in K hk 1 (by decide)) dL_law_1048 ?_
  refine g_aload_n K.1.1 dL_law_1049 rfl ?_
  refine g_iload_n K.1.1 dL_law_1050 rfl ?_
  refine g_iconst (v := 2) K.1.1 dL_law_1051 (by decide) ?_
  refine g_iadd K.1.1 dL_law_1052 ?_
  refine L_sld K (L_in K hk 2 (by decide)) dL_law_1053 ?_
  refine g_aload_n K.1.1 dL_law_1054 rfl ?_
  refine g_iload_n K.1.1 dL_law_1055 rfl ?_
  refine g_iconst (v := 3) K.1.1 dL_law_1056 (by decide) ?_
  refine g_iadd K.1.1 dL_law_1057 ?_
  refine L_sld K (L_in K hk 3 (by decide)) dL_law_1058 ?_
  refine g_aload_n K.1.1 dL_law_1059 rfl ?_
  refine g_iload_n K.1.1 dL_law_1060 rfl ?_
  refine g_iconst (v := 4) K.1.1 dL_law_1061 (by decide) ?_
  refine g_iadd K.1.1 dL_law_1062 ?_
  refine L_sld K (L_in K hk 4 (by decide)) dL_law_1063 ?_
  refine L_callMi K kL_X8_put c2 rfl rfl (Nat.le_of_ble_eq_true rfl) dL_law_1064 (fun r2 m2 p2 => ?_)
  obtain ⟨e, hR⟩ := c3 _ _ _ _ p1 p2
  exact g_icmp_eq_t (tgt := 1248) K.1.1 dL_law_1067 (by decide) e (nx _ _ hR)
set_option maxRecDepth 20000 in
theorem kL_X7_get : KV RL wsL_law room_1 135 RX7 yX7_get wsX7_get rm_X7_get 3 := ⟨_, _, _, _, gL_law_X7_get, rfl, rfl, rfl, by decide +kernel, by decide⟩
set_option maxRecDepth 20000 in
theorem kL_X8_get : KV RL wsL_law room_1 138 RX8 yX8_get wsX8_get rm_X8_get 3 := ⟨_, _, _, _, gL_law_X8_get, rfl, rfl, rfl, by decide +kernel, by decide⟩
set_option maxHeartbeats 4000000 in
set_option maxRecDepth 100000 in
theorem lo_get (K : LC X l room_1 VX VM b L ss cs sl) (hk : k + 6 ≤ L) (h : RR x m) (nx : ∀ x2 m2, RR x2 m2 → GJ X (LPh X VX VM x2 m2) 4 1248 (lL b VX VM k) [] cs sl) : GJ X (LPh X VX VM x m) 4 1072 (lL b VX VM k) [] cs sl := by
  obtain ⟨PX, PM, c1, c2, c3⟩ := op_get (l := l) K.2.2.1.1 K.2.2.1.2 h (ss (nI k + 1).toNatClampNeg) (ss (nI k + 2).toNatClampNeg) (ss (nI k + 3).toNatClampNeg)
  refine g_aload_n K.1.1 dL_law_1072 rfl ?_
  refine g_aload_n K.1.1 dL_law_1073 rfl ?_
  refine g_iload_n K.1.1 dL_law_1074 rfl ?_
  refine g_iconst (v := 1) K.1.1 dL_law_1075 (by decide) ?_
  refine g_iadd K.1.1 dL_law_1076 ?_
  refine L_sld K (L_in K hk 1 (by decide)) dL_law_1077 ?_
  refine g_aload_n K.1.1 dL_law_1078 rfl ?_
  refine g_iload_n K.1.1 dL_law_1079 rfl ?_
  refine g_iconst (v := 2) K.1.1 dL_law_1080 (by decide) ?_
  refine g_iadd K.1.1 dL_law_1081 ?_
  refine L_sld K (L_in K hk 2 (by decide)) dL_law_1082 ?_
  refine g_aload_n K.1.1 dL_law_1083 rfl ?_
  refine g_iload_n K.1.1 dL_law_1084 rfl ?_
  refine g_iconst (v := 3) K.1.1 dL_law_1085 (by decide) ?_
  refine g_iadd K.1.1 dL_law_1086 ?_
  refine L_sld K (L_in K hk 3 (by decide)) dL_law_1087 ?_
  refine L_callXi K kL_X7_get c1 rfl rfl (Nat.le_of_ble_eq_true rfl) dL_law_1088 (fun r1 x2 p1 => ?_)
  refine g_aload_n K.1.1 dL_law_1091 rfl ?_
  refine g_aload_n K.1.1 dL_law_1092 rfl ?_
  refine g_iload_n K.1.1 dL_law_1093 rfl ?_
  refine g_iconst (v := 1) K.1.1 dL_law_1094 (by decide) ?_
  refine g_iadd K.1.1 dL_law_1095 ?_
  refine L_sld K (L_in K hk 1 (by decide)) dL_law_1096 ?_
  refine g_aload_n K.1.1 dL_law_1097 rfl ?_
  refine g_iload_n K.1.1 dL_law_1098 rfl ?_
  refine g_iconst (v := 2) K.1.1 dL_law_1099 (by decide) ?_
  refine g_iadd K.1.1 dL_law_1100 ?_
  refine L_sld K (L_in K hk 2 (by decide)) dL_law_1101 ?_
  refine g_aload_n K.1.1 dL_law_1102 rfl ?_
  refine g_iload_n K.1.1 dL_law_1103 rfl ?_
  refine g_iconst (v := 3) K.1.1 dL_law_1104 (by decide) ?_
  refine g_iadd K.1.1 dL_law_1105 ?_
  refine L_sld K (L_in K hk 3 (by decide)) dL_law_1106 ?_
  refine L_callMi K kL_X8_get c2 rfl rfl (Nat.le_of_ble_eq_true rfl) dL_law_1107 (fun r2 m2 p2 => ?_)
  obtain ⟨e, hR⟩ := c3 _ _ _ _ p1 p2
  exact g_icmp_eq_t (tgt := 1248) K.1.1 dL_law_1110 (by decide) e (nx _ _ hR)
set_option maxRecDepth 20000 in
theorem kL_X7_copy : KV RL wsL_law room_1 139 RX7 yX7_copy wsX7_copy rm_X7_copy 5 := ⟨_, _, _, _, gL_law_X7_copy, rfl, rfl, rfl, by decide +kernel, by decide⟩
set_option maxRecDepth 20000 in
theorem kL_X8_copy : KV RL wsL_law room_1 143 RX8 yX8_copy wsX8_copy rm_X8_copy 5 := ⟨_, _, _, _, gL_law_X8_copy, rfl, rfl, rfl, by decide +kernel, by decide⟩
set_option maxHeartbeats 4000000 in
set_option maxRecDepth 100000 in
theorem lo_copy (K : LC X l room_1 VX VM b L ss cs sl) (hk : k + 6 ≤ L) (h : RR x m) (nx : ∀ x2 m2, RR x2 m2 → GJ X (LPh X VX VM x2 m2) 4 1248 (lL b VX VM k) [] cs sl) : GJ X (LPh X VX VM x m) 4 1115 (lL b VX VM k) [] cs sl := by
  obtain ⟨PX, PM, c1, c2, c3⟩ := op_copy (l := l) K.2.2.1.1 K.2.2.1.2 h (ss (nI k + 1).toNatClampNeg) (ss (nI k + 2).toNatClampNeg) (ss (nI k + 3).toNatClampNeg) (ss (nI k + 4).toNatClampNeg) (ss (nI k + 5).toNatClampNeg)
  refine g_aload_n K.1.1 dL_law_1115 rfl ?_
  refine g_aload_n K.1.1 dL_law_1116 rfl ?_
  refine g_iload_n K.1.1 dL_law_1117 rfl ?_
  refine g_iconst (v := 1) K.1.1 dL_law_1118 (by decide) ?_
  refine g_iadd K.1.1 dL_law_1119 ?_
  refine L_sld K (L_in K hk 1 (by decide)) dL_law_1120 ?_
  refine g_aload_n K.1.1 dL_law_1121 rfl ?_
  refine g_iload_n K.1.1 dL_law_1122 rfl ?_
  refine g_iconst (v := 2) K.1.1 dL_law_1123 (by decide) ?_
  refine g_iadd K.1.1 dL_law_1124 ?_
  refine L_sld K (L_in K hk 2 (by decide)) dL_law_1125 ?_
  refine g_aload_n K.1.1 dL_law_1126 rfl ?_
  refine g_iload_n K.1.1 dL_law_1127 rfl ?_
  refine g_iconst (v := 3) K.1.1 dL_law_1128 (by decide) ?_
  refine g_iadd K.1.1 dL_law_1129 ?_
  refine L_sld K (L_in K hk 3 (by decide)) dL_law_1130 ?_
  refine g_aload_n K.1.1 dL_law_1131 rfl ?_
  refine g_iload_n K.1.1 dL_law_1132 rfl ?_
  refine g_iconst (v := 4) K.1.1 dL_law_1133 (by decide) ?_
  refine g_iadd K.1.1 dL_law_1134 ?_
  refine L_sld K (L_in K hk 4 (by decide)) dL_law_1135 ?_
  refine g_aload_n K.1.1 dL_law_1136 rfl ?_
  refine g_iload_n K.1.1 dL_law_1137 rfl ?_
  refine g_iconst (v := 5) K.1.1 dL_law_1138 (by decide) ?_
  refine g_iadd K.1.1 dL_law_1139 ?_
  refine L_sld K (L_in K hk 5 (by decide)) dL_law_1140 ?_
  refine L_callXi K kL_X7_copy c1 rfl rfl (Nat.le_of_ble_eq_true rfl) dL_law_1141 (fun r1 x2 p1 => ?_)
  refine g_aload_n K.1.1 dL_law_1144 rfl ?_
  refine g_aload_n K.1.1 dL_law_1145 rfl ?_
  refine g_iload_n K.1.1 dL_law_1146 rfl ?_
  refine g_iconst (v := 1) K.1.1 dL_law_1147 (by decide) ?_
  refine g_iadd K.1.1 dL_law_1148 ?_
  refine L_sld K (L_in K hk 1 (by decide)) dL_law_1149 ?_
  refine g_aload_n K.1.1 dL_law_1150 rfl ?_
  refine g_iload_n K.1.1 dL_law_1151 rfl ?_
  refine g_iconst (v := 2) K.1.1 dL_law_1152 (by decide) ?_
  refine g_iadd K.1.1 dL_law_1153 ?_
  refine L_sld K (L_in K hk 2 (by decide)) dL_law_1154 ?_
  refine g_aload_n K.1.1 dL_law_1155 rfl ?_
  refine g_iload_n K.1.1 dL_law_1156 rfl ?_
  refine g_iconst (v := 3) K.1.1 dL_law_1157 (by decide) ?_
  refine g_iadd K.1.1 dL_law_1158 ?_
  refine L_sld K (L_in K hk 3 (by decide)) dL_law_1159 ?_
  refine g_aload_n K.1.1 dL_law_1160 rfl ?_
  refine g_iload_n K.1.1 dL_law_1161 rfl ?_
  refine g_iconst (v := 4) K.1.1 dL_law_1162 (by decide) ?_
  refine g_iadd K.1.1 dL_law_1163 ?_
  refine L_sld K (L_in K hk 4 (by decide)) dL_law_1164 ?_
  refine g_aload_n K.1.1 dL_law_1165 rfl ?_
  refine g_iload_n K.1.1 dL_law_1166 rfl ?_
  refine g_iconst (v := 5) K.1.1 dL_law_1167 (by decide) ?_
  refine g_iadd K.1.1 dL_law_1168 ?_
  refine L_sld K (L_in K hk 5 (by decide)) dL_law_1169 ?_
  refine L_callMi K kL_X8_copy c2 rfl rfl (Nat.le_of_ble_eq_true rfl) dL_law_1170 (fun r2 m2 p2 => ?_)
  obtain ⟨e, hR⟩ := c3 _ _ _ _ p1 p2
  exact g_icmp_eq_t (tgt := 1248) K.1.1 dL_law_1173 (by decide) e (nx _ _ hR)
set_option maxRecDepth 20000 in
theorem kL_X7_write : KV RL wsL_law room_1 144 RX7 yX7_write wsX7_write rm_X7_write 2 := ⟨_, _, _, _, gL_law_X7_write, rfl, rfl, rfl, by decide +kernel, by decide⟩
set_option maxRecDepth 20000 in
theorem kL_X8_write : KV RL wsL_law room_1 147 RX8 yX8_write wsX8_write rm_X8_write 2 := ⟨_, _, _, _, gL_law_X8_write, rfl, rfl, rfl, by decide +kernel, by decide⟩
set_option maxHeartbeats 4000000 in
set_option maxRecDepth 100000 in
theorem lo_write (K : LC X l room_1 VX VM b L ss cs sl) (hk : k + 6 ≤ L) (h : RR x m) (nx : ∀ x2 m2, RR x2 m2 → GJ X (LPh X VX VM x2 m2) 4 1248 (lL b VX VM k) [] cs sl) : GJ X (LPh X VX VM x m) 4 1178 (lL b VX VM k) [] cs sl := by
  obtain ⟨PX, PM, c1, c2, c3⟩ := op_write (l := l) K.2.2.1.1 K.2.2.1.2 h (ss (nI k + 1).toNatClampNeg) (ss (nI k + 2).toNatClampNeg)
  refine g_aload_n K.1.1 dL_law_1178 rfl ?_
  refine g_aload_n K.1.1 dL_law_1179 rfl ?_
  refine g_iload_n K.1.1 dL_law_1180 rfl ?_
  refine g_iconst (v := 1) K.1.1 dL_law_1181 (by decide) ?_
  refine g_iadd K.1.1 dL_law_1182 ?_
  refine L_sld K (L_in K hk 1 (by decide)) dL_law_1183 ?_
  refine g_aload_n K.1.1 dL_law_1184 rfl ?_
  refine g_iload_n K.1.1 dL_law_1185 rfl ?_
  refine g_iconst (v := 2) K.1.1 dL_law_1186 (by decide) ?_
  refine g_iadd K.1.1 dL_law_1187 ?_
  refine L_sld K (L_in K hk 2 (by decide)) dL_law_1188 ?_
  refine L_callXi K kL_X7_write c1 rfl rfl (Nat.le_of_ble_eq_true rfl) dL_law_1189 (fun r1 x2 p1 => ?_)
  refine g_aload_n K.1.1 dL_law_1192 rfl ?_
  refine g_aload_n K.1.1 dL_law_1193 rfl ?_
  refine g_iload_n K.1.1 dL_law_1194 rfl ?_
  refine g_iconst (v := 1) K.1.1 dL_law_1195 (by decide) ?_
  refine g_iadd K.1.1 dL_law_1196 ?_
  refine L_sld K (L_in K hk 1 (by decide)) dL_law_1197 ?_
  refine g_aload_n K.1.1 dL_law_1198 rfl ?_
  refine g_iload_n K.1.1 dL_law_1199 rfl ?_
  refine g_iconst (v := 2) K.1.1 dL_law_1200 (by decide) ?_
  refine g_iadd K.1.1 dL_law_1201 ?_
  refine L_sld K (L_in K hk 2 (by decide)) dL_law_1202 ?_
  refine L_callMi K kL_X8_write c2 rfl rfl (Nat.le_of_ble_eq_true rfl) dL_law_1203 (fun r2 m2 p2 => ?_)
  obtain ⟨e, hR⟩ := c3 _ _ _ _ p1 p2
  exact g_icmp_eq_t (tgt := 1248) K.1.1 dL_law_1206 (by decide) e (nx _ _ hR)
set_option maxRecDepth 20000 in
theorem kL_X7_count : KV RL wsL_law room_1 148 RX7 yX7_count wsX7_count rm_X7_count 1 := ⟨_, _, _, _, gL_law_X7_count, rfl, rfl, rfl, by decide +kernel, by decide⟩
set_option maxRecDepth 20000 in
theorem kL_X8_count : KV RL wsL_law room_1 151 RX8 yX8_count wsX8_count rm_X8_count 1 := ⟨_, _, _, _, gL_law_X8_count, rfl, rfl, rfl, by decide +kernel, by decide⟩
set_option maxHeartbeats 4000000 in
set_option maxRecDepth 100000 in
theorem lo_count (K : LC X l room_1 VX VM b L ss cs sl) (hk : k + 6 ≤ L) (h : RR x m) (nx : ∀ x2 m2, RR x2 m2 → GJ X (LPh X VX VM x2 m2) 4 1248 (lL b VX VM k) [] cs sl) : GJ X (LPh X VX VM x m) 4 1211 (lL b VX VM k) [] cs sl := by
  obtain ⟨PX, PM, c1, c2, c3⟩ := op_count (l := l) K.2.2.1.1 K.2.2.1.2 h (ss (nI k + 1).toNatClampNeg)
  refine g_aload_n K.1.1 dL_law_1211 rfl ?_
  refine g_aload_n K.1.1 dL_law_1212 rfl ?_
  refine g_iload_n K.1.1 dL_law_1213 rfl ?_
  refine g_iconst (v := 1) K.1.1 dL_law_1214 (by decide) ?_
  refine g_iadd K.1.1 dL_law_1215 ?_
  refine L_sld K (L_in K hk 1 (by decide)) dL_law_1216 ?_
  refine L_callXi K kL_X7_count c1 rfl rfl (Nat.le_of_ble_eq_true rfl) dL_law_1217 (fun r1 x2 p1 => ?_)
  refine g_aload_n K.1.1 dL_law_1220 rfl ?_
  refine g_aload_n K.1.1 dL_law_1221 rfl ?_
  refine g_iload_n K.1.1 dL_law_1222 rfl ?_
  refine g_iconst (v := 1) K.1.1 dL_law_1223 (by decide) ?_
  refine g_iadd K.1.1 dL_law_1224 ?_
  refine L_sld K (L_in K hk 1 (by decide)) dL_law_1225 ?_
  refine L_callMi K kL_X8_count c2 rfl rfl (Nat.le_of_ble_eq_true rfl) dL_law_1226 (fun r2 m2 p2 => ?_)
  obtain ⟨e, hR⟩ := c3 _ _ _ _ p1 p2
  exact g_icmp_eq_t (tgt := 1248) K.1.1 dL_law_1229 (by decide) e (nx _ _ hR)
set_option maxRecDepth 20000 in
theorem kL_X7_digest : KV RL wsL_law room_1 152 RX7 yX7_digest wsX7_digest rm_X7_digest 0 := ⟨_, _, _, _, gL_law_X7_digest, rfl, rfl, rfl, by decide +kernel, by decide⟩
set_option maxRecDepth 20000 in
theorem kL_X8_digest : KV RL wsL_law room_1 156 RX8 yX8_digest wsX8_digest rm_X8_digest 0 := ⟨_, _, _, _, gL_law_X8_digest, rfl, rfl, rfl, by decide +kernel, by decide⟩
set_option maxHeartbeats 4000000 in
set_option maxRecDepth 100000 in
theorem lo_digest (K : LC X l room_1 VX VM b L ss cs sl) (hk : k + 6 ≤ L) (h : RR x m) (nx : ∀ x2 m2, RR x2 m2 → GJ X (LPh X VX VM x2 m2) 4 1248 (lL b VX VM k) [] cs sl) : GJ X (LPh X VX VM x m) 4 1234 (lL b VX VM k) [] cs sl := by
  obtain ⟨PX, PM, c1, c2, c3⟩ := op_digest (l := l) K.2.2.1.1 K.2.2.1.2 h
  refine g_aload_n K.1.1 dL_law_1234 rfl ?_
  refine L_callXl K kL_X7_digest c1 rfl rfl (Nat.le_of_ble_eq_true rfl) dL_law_1235 (fun r1 x2 p1 => ?_)
  refine g_aload_n K.1.1 dL_law_1238 rfl ?_
  refine L_callMl K kL_X8_digest c2 rfl rfl (Nat.le_of_ble_eq_true rfl) dL_law_1239 (fun r2 m2 p2 => ?_)
  obtain ⟨e, hR⟩ := c3 _ _ _ _ p1 p2
  refine g_lcmp K.1.1 dL_law_1242 ?_
  exact g_if_eq (tgt := 1248) K.1.1 dL_law_1243 (by decide) (fun _ => nx _ _ hR) (fun c => absurd ((lg_cmp_eq _ _).mpr e) c)
end LAWO
