def jL_law_862 (Ls : Nat) (xs : Nat → Int32) (B18 : mK) : mK := i_inc 3 5 (B18)
set_option maxRecDepth 20000 in
theorem JL_law_862 {X : mC} {b Ls : Nat} {xs : Nat → Int32} (C : Cx X room_1 cL_law 4 RL ret) (hX : Ex X) (hL : Lx X b Ls xs) (B18 : mK) (hB18 : Den X room_1 4 18 B18) : Den X room_1 4 862 (jL_law_862 Ls xs B18) := by
  unfold jL_law_862
  refine Dn_inc (z := 5) (q := 865) C dL_law_862 (by decide) (by decide) rfl ?_
  refine Dn_goto (t := 18) C dL_law_865 (by decide) ?_
  exact hB18
def jL_law_839 (Ls : Nat) (xs : Nat → Int32) (B18 : mK) : mK := i_ald 1 (i_ald 0 (i_ild 3 (i_push (.int 1) (i_ib (fun x y => x + y) (i_sld Ls xs (i_callV 4 1 FX4_count (i_ald 2 (i_ald 0 (i_ild 3 (i_push (.int 1) (i_ib (fun x y => x + y) (i_sld Ls xs (i_callV 5 1 FX5_count (i_iceq ((jL_law_862 Ls xs B18)) (i_push (.int 0) (i_ret1))))))))))))))))
set_option maxRecDepth 20000 in
theorem JL_law_839 {X : mC} {b Ls : Nat} {xs : Nat → Int32} (C : Cx X room_1 cL_law 4 RL ret) (hX : Ex X) (hL : Lx X b Ls xs) (B18 : mK) (hB18 : Den X room_1 4 18 B18) : Den X room_1 4 839 (jL_law_839 Ls xs B18) := by
  unfold jL_law_839
  refine Dn_ald_n (i := 1) (q := 840) C dL_law_839 rfl rfl ?_
  refine Dn_ald_n (i := 0) (q := 841) C dL_law_840 rfl rfl ?_
  refine Dn_ild_n (i := 3) (q := 842) C dL_law_841 rfl rfl ?_
  refine Dn_iconst (v := 1) (q := 843) C dL_law_842 (by decide) rfl ?_
  refine Dn_iadd (q := 844) C dL_law_843 rfl ?_
  refine Dn_sld (q := 845) C hL dL_law_844 rfl ?_
  refine Dn_callV (ci := 4) (T := TX4) (N := 17) (q := 848) C rfl (kX4_count _ _ _) q_703 q_700 q_701 q_702 q_44 ⟨rfl, rfl⟩ (by decide +kernel) ⟨by decide, by decide⟩ dL_law_845 rfl ?_
  refine Dn_ald_n (i := 2) (q := 849) C dL_law_848 rfl rfl ?_
  refine Dn_ald_n (i := 0) (q := 850) C dL_law_849 rfl rfl ?_
  refine Dn_ild_n (i := 3) (q := 851) C dL_law_850 rfl rfl ?_
  refine Dn_iconst (v := 1) (q := 852) C dL_law_851 (by decide) rfl ?_
  refine Dn_iadd (q := 853) C dL_law_852 rfl ?_
  refine Dn_sld (q := 854) C hL dL_law_853 rfl ?_
  refine Dn_callV (ci := 5) (T := TX5) (N := 25) (q := 857) C rfl (kX5_count _ _ _) q_1048 q_1045 q_1046 q_1047 q_50 ⟨rfl, rfl⟩ (by decide +kernel) ⟨by decide, by decide⟩ dL_law_854 rfl ?_
  refine Dn_iceq (t := 862) (q := 860) C dL_law_857 (by decide) rfl ?_ ?_
  · exact JL_law_862 C hX hL B18 hB18
  · refine Dn_iconst (v := 0) (q := 861) C dL_law_860 (by decide) rfl ?_
    exact Dn_ret1 C hX dL_law_861
def jL_law_816 (Ls : Nat) (xs : Nat → Int32) (B18 : mK) : mK := i_ald 1 (i_ald 0 (i_ild 3 (i_push (.int 1) (i_ib (fun x y => x + y) (i_sld Ls xs (i_callV 4 1 FX4_played (i_ald 2 (i_ald 0 (i_ild 3 (i_push (.int 1) (i_ib (fun x y => x + y) (i_sld Ls xs (i_callV 5 1 FX5_played (i_iceq ((jL_law_862 Ls xs B18)) (i_push (.int 0) (i_ret1))))))))))))))))
set_option maxRecDepth 20000 in
theorem JL_law_816 {X : mC} {b Ls : Nat} {xs : Nat → Int32} (C : Cx X room_1 cL_law 4 RL ret) (hX : Ex X) (hL : Lx X b Ls xs) (B18 : mK) (hB18 : Den X room_1 4 18 B18) : Den X room_1 4 816 (jL_law_816 Ls xs B18) := by
  unfold jL_law_816
  refine Dn_ald_n (i := 1) (q := 817) C dL_law_816 rfl rfl ?_
  refine Dn_ald_n (i := 0) (q := 818) C dL_law_817 rfl rfl ?_
  refine Dn_ild_n (i := 3) (q := 819) C dL_law_818 rfl rfl ?_
  refine Dn_iconst (v := 1) (q := 820) C dL_law_819 (by decide) rfl ?_
  refine Dn_iadd (q := 821) C dL_law_820 rfl ?_
  refine Dn_sld (q := 822) C hL dL_law_821 rfl ?_
  refine Dn_callV (ci := 4) (T := TX4) (N := 17) (q := 825) C rfl (kX4_played _ _ _) q_695 q_692 q_693 q_694 q_44 ⟨rfl, rfl⟩ (by decide +kernel) ⟨by decide, by decide⟩ dL_law_822 rfl ?_
  refine Dn_ald_n (i := 2) (q := 826) C dL_law_825 rfl rfl ?_
  refine Dn_ald_n (i := 0) (q := 827) C dL_law_826 rfl rfl ?_
  refine Dn_ild_n (i := 3) (q := 828) C dL_law_827 rfl rfl ?_
  refine Dn_iconst (v := 1) (q := 829) C dL_law_828 (by decide) rfl ?_
  refine Dn_iadd (q := 830) C dL_law_829 rfl ?_
  refine Dn_sld (q := 831) C hL dL_law_830 rfl ?_
  refine Dn_callV (ci := 5) (T := TX5) (N := 25) (q := 834) C rfl (kX5_played _ _ _) q_1040 q_1037 q_1038 q_1039 q_50 ⟨rfl, rfl⟩ (by decide +kernel) ⟨by decide, by decide⟩ dL_law_831 rfl ?_
  refine Dn_iceq (t := 862) (q := 837) C dL_law_834 (by decide) rfl ?_ ?_
  · exact JL_law_862 C hX hL B18 hB18
  · refine Dn_iconst (v := 0) (q := 838) C dL_law_837 (by decide) rfl ?_
    exact Dn_ret1 C hX dL_law_838
def jL_law_803 (Ls : Nat) (xs : Nat → Int32) (B18 : mK) : mK := i_ald 1 (i_callV 4 0 FX4_forget (i_ald 2 (i_callV 5 0 FX5_forget (i_iceq ((jL_law_862 Ls xs B18)) (i_push (.int 0) (i_ret1))))))
set_option maxRecDepth 20000 in
theorem JL_law_803 {X : mC} {b Ls : Nat} {xs : Nat → Int32} (C : Cx X room_1 cL_law 4 RL ret) (hX : Ex X) (hL : Lx X b Ls xs) (B18 : mK) (hB18 : Den X room_1 4 18 B18) : Den X room_1 4 803 (jL_law_803 Ls xs B18) := by
  unfold jL_law_803
  refine Dn_ald_n (i := 1) (q := 804) C dL_law_803 rfl rfl ?_
  refine Dn_callV (ci := 4) (T := TX4) (N := 17) (q := 807) C rfl (kX4_forget _ _ _) q_691 q_688 q_689 q_690 q_44 ⟨rfl, rfl⟩ (by decide +kernel) ⟨by decide, by decide⟩ dL_law_804 rfl ?_
  refine Dn_ald_n (i := 2) (q := 808) C dL_law_807 rfl rfl ?_
  refine Dn_callV (ci := 5) (T := TX5) (N := 25) (q := 811) C rfl (kX5_forget _ _ _) q_1036 q_1033 q_1034 q_1035 q_50 ⟨rfl, rfl⟩ (by decide +kernel) ⟨by decide, by decide⟩ dL_law_808 rfl ?_
  refine Dn_iceq (t := 862) (q := 814) C dL_law_811 (by decide) rfl ?_ ?_
  · exact JL_law_862 C hX hL B18 hB18
  · refine Dn_iconst (v := 0) (q := 815) C dL_law_814 (by decide) rfl ?_
    exact Dn_ret1 C hX dL_law_815
def jL_law_760 (Ls : Nat) (xs : Nat → Int32) (B18 : mK) : mK := i_ald 1 (i_ald 0 (i_ild 3 (i_push (.int 1) (i_ib (fun x y => x + y) (i_sld Ls xs (i_ald 0 (i_ild 3 (i_push (.int 2) (i_ib (fun x y => x + y) (i_sld Ls xs (i_ald 0 (i_ild 3 (i_push (.int 3) (i_ib (fun x y => x + y) (i_sld Ls xs (i_callV 4 3 FX4_seen (i_ald 2 (i_ald 0 (i_ild 3 (i_push (.int 1) (i_ib (fun x y => x + y) (i_sld Ls xs (i_ald 0 (i_ild 3 (i_push (.int 2) (i_ib (fun x y => x + y) (i_sld Ls xs (i_ald 0 (i_ild 3 (i_push (.int 3) (i_ib (fun x y => x + y) (i_sld Ls xs (i_callV 5 3 FX5_seen (i_iceq ((jL_law_862 Ls xs B18)) (i_push (.int 0) (i_ret1))))))))))))))))))))))))))))))))))))
set_option maxRecDepth 20000 in
theorem JL_law_760 {X : mC} {b Ls : Nat} {xs : Nat → Int32} (C : Cx X room_1 cL_law 4 RL ret) (hX : Ex X) (hL : Lx X b Ls xs) (B18 : mK) (hB18 : Den X room_1 4 18 B18) : Den X room_1 4 760 (jL_law_760 Ls xs B18) := by
  unfold jL_law_760
  refine Dn_ald_n (i := 1) (q := 761) C dL_law_760 rfl rfl ?_
  refine Dn_ald_n (i := 0) (q := 762) C dL_law_761 rfl rfl ?_
  refine Dn_ild_n (i := 3) (q := 763) C dL_law_762 rfl rfl ?_
  refine Dn_iconst (v := 1) (q := 764) C dL_law_763 (by decide) rfl ?_
  refine Dn_iadd (q := 765) C dL_law_764 rfl ?_
  refine Dn_sld (q := 766) C hL dL_law_765 rfl ?_
  refine Dn_ald_n (i := 0) (q := 767) C dL_law_766 rfl rfl ?_
  refine Dn_ild_n (i := 3) (q := 768) C dL_law_767 rfl rfl ?_
  refine Dn_iconst (v := 2) (q := 769) C dL_law_768 (by decide) rfl ?_
  refine Dn_iadd (q := 770) C dL_law_769 rfl ?_
  refine Dn_sld (q := 771) C hL dL_law_770 rfl ?_
  refine Dn_ald_n (i := 0) (q := 772) C dL_law_771 rfl rfl ?_
  refine Dn_ild_n (i := 3) (q := 773) C dL_law_772 rfl rfl ?_
  refine Dn_iconst (v := 3) (q := 774) C dL_law_773 (by decide) rfl ?_
  refine Dn_iadd (q := 775) C dL_law_774 rfl ?_
  refine Dn_sld (q := 776) C hL dL_law_775 rfl ?_
  refine Dn_callV (ci := 4) (T := TX4) (N := 17) (q := 779) C rfl (kX4_seen _ _ _) q_687 q_684 q_685 q_686 q_44 ⟨rfl, rfl⟩ (by decide +kernel) ⟨by decide, by decide⟩ dL_law_776 rfl ?_
  refine Dn_ald_n (i := 2) (q := 780) C dL_law_779 rfl rfl ?_
  refine Dn_ald_n (i := 0) (q := 781) C dL_law_780 rfl rfl ?_
  refine Dn_ild_n (i := 3) (q := 782) C dL_law_781 rfl rfl ?_
  refine Dn_iconst (v := 1) (q := 783) C dL_law_782 (by decide) rfl ?_
  refine Dn_iadd (q := 784) C dL_law_783 rfl ?_
  refine Dn_sld (q := 785) C hL dL_law_784 rfl ?_
  refine Dn_ald_n (i := 0) (q := 786) C dL_law_785 rfl rfl ?_
  refine Dn_ild_n (i := 3) (q := 787) C dL_law_786 rfl rfl ?_
  refine Dn_iconst (v := 2) (q := 788) C dL_law_787 (by decide) rfl ?_
  refine Dn_iadd (q := 789) C dL_law_788 rfl ?_
  refine Dn_sld (q := 790) C hL dL_law_789 rfl ?_
  refine Dn_ald_n (i := 0) (q := 791) C dL_law_790 rfl rfl ?_
  refine Dn_ild_n (i := 3) (q := 792) C dL_law_791 rfl rfl ?_
  refine Dn_iconst (v := 3) (q := 793) C dL_law_792 (by decide) rfl ?_
  refine Dn_iadd (q := 794) C dL_law_793 rfl ?_
  refine Dn_sld (q := 795) C hL dL_law_794 rfl ?_
  refine Dn_callV (ci := 5) (T := TX5) (N := 25) (q := 798) C rfl (kX5_seen _ _ _) q_1032 q_1029 q_1030 q_1031 q_50 ⟨rfl, rfl⟩ (by decide +kernel) ⟨by decide, by decide⟩ dL_law_795 rfl ?_
  refine Dn_iceq (t := 862) (q := 801) C dL_law_798 (by decide) rfl ?_ ?_
  · exact JL_law_862 C hX hL B18 hB18
  · refine Dn_iconst (v := 0) (q := 802) C dL_law_801 (by decide) rfl ?_
    exact Dn_ret1 C hX dL_law_802
def jL_law_707 (Ls : Nat) (xs : Nat → Int32) (B18 : mK) : mK := i_ald 1 (i_ald 0 (i_ild 3 (i_push (.int 1) (i_ib (fun x y => x + y) (i_sld Ls xs (i_ald 0 (i_ild 3 (i_push (.int 2) (i_ib (fun x y => x + y) (i_sld Ls xs (i_ald 0 (i_ild 3 (i_push (.int 3) (i_ib (fun x y => x + y) (i_sld Ls xs (i_ald 0 (i_ild 3 (i_push (.int 4) (i_ib (fun x y => x + y) (i_sld Ls xs (i_callV 4 4 FX4_wind (i_ald 2 (i_ald 0 (i_ild 3 (i_push (.int 1) (i_ib (fun x y => x + y) (i_sld Ls xs (i_ald 0 (i_ild 3 (i_push (.int 2) (i_ib (fun x y => x + y) (i_sld Ls xs (i_ald 0 (i_ild 3 (i_push (.int 3) (i_ib (fun x y => x + y) (i_sld Ls xs (i_ald 0 (i_ild 3 (i_push (.int 4) (i_ib (fun x y => x + y) (i_sld Ls xs (i_callV 5 4 FX5_wind (i_iceq ((jL_law_862 Ls xs B18)) (i_push (.int 0) (i_ret1))))))))))))))))))))))))))))))))))))))))))))))
set_option maxRecDepth 20000 in
theorem JL_law_707 {X : mC} {b Ls : Nat} {xs : Nat → Int32} (C : Cx X room_1 cL_law 4 RL ret) (hX : Ex X) (hL : Lx X b Ls xs) (B18 : mK) (hB18 : Den X room_1 4 18 B18) : Den X room_1 4 707 (jL_law_707 Ls xs B18) := by
  unfold jL_law_707
  refine Dn_ald_n (i := 1) (q := 708) C dL_law_707 rfl rfl ?_
  refine Dn_ald_n (i := 0) (q := 709) C dL_law_708 rfl rfl ?_
  refine Dn_ild_n (i := 3) (q := 710) C dL_law_709 rfl rfl ?_
  refine Dn_iconst (v := 1) (q := 711) C dL_law_710 (by decide) rfl ?_
  refine Dn_iadd (q := 712) C dL_law_711 rfl ?_
  refine Dn_sld (q := 713) C hL dL_law_712 rfl ?_
  refine Dn_ald_n (i := 0) (q := 714) C dL_law_713 rfl rfl ?_
  refine Dn_ild_n (i := 3) (q := 715) C dL_law_714 rfl rfl ?_
  refine Dn_iconst (v := 2) (q := 716) C dL_law_715 (by decide) rfl ?_
  refine Dn_iadd (q := 717) C dL_law_716 rfl ?_
  refine Dn_sld (q := 718) C hL dL_law_717 rfl ?_
  refine Dn_ald_n (i := 0) (q := 719) C dL_law_718 rfl rfl ?_
  refine Dn_ild_n (i := 3) (q := 720) C dL_law_719 rfl rfl ?_
  refine Dn_iconst (v := 3) (q := 721) C dL_law_720 (by decide) rfl ?_
  refine Dn_iadd (q := 722) C dL_law_721 rfl ?_
  refine Dn_sld (q := 723) C hL dL_law_722 rfl ?_
  refine Dn_ald_n (i := 0) (q := 724) C dL_law_723 rfl rfl ?_
  refine Dn_ild_n (i := 3) (q := 725) C dL_law_724 rfl rfl ?_
  refine Dn_iconst (v := 4) (q := 726) C dL_law_725 (by decide) rfl ?_
  refine Dn_iadd (q := 727) C dL_law_726 rfl ?_
  refine Dn_sld (q := 728) C hL dL_law_727 rfl ?_
  refine Dn_callV (ci := 4) (T := TX4) (N := 17) (q := 731) C rfl (kX4_wind _ _ _) q_676 q_673 q_674 q_675 q_44 ⟨rfl, rfl⟩ (by decide +kernel) ⟨by decide, by decide⟩ dL_law_728 rfl ?_
  refine Dn_ald_n (i := 2) (q := 732) C dL_law_731 rfl rfl ?_
  refine Dn_ald_n (i := 0) (q := 733) C dL_law_732 rfl rfl ?_
  refine Dn_ild_n (i := 3) (q := 734) C dL_law_733 rfl rfl ?_
  refine Dn_iconst (v := 1) (q := 735) C dL_law_734 (by decide) rfl ?_
  refine Dn_iadd (q := 736) C dL_law_735 rfl ?_
  refine Dn_sld (q := 737) C hL dL_law_736 rfl ?_
  refine Dn_ald_n (i := 0) (q := 738) C dL_law_737 rfl rfl ?_
  refine Dn_ild_n (i := 3) (q := 739) C dL_law_738 rfl rfl ?_
  refine Dn_iconst (v := 2) (q := 740) C dL_law_739 (by decide) rfl ?_
  refine Dn_iadd (q := 741) C dL_law_740 rfl ?_
  refine Dn_sld (q := 742) C hL dL_law_741 rfl ?_
  refine Dn_ald_n (i := 0) (q := 743) C dL_law_742 rfl rfl ?_
  refine Dn_ild_n (i := 3) (q := 744) C dL_law_743 rfl rfl ?_
  refine Dn_iconst (v := 3) (q := 745) C dL_law_744 (by decide) rfl ?_
  refine Dn_iadd (q := 746) C dL_law_745 rfl ?_
  refine Dn_sld (q := 747) C hL dL_law_746 rfl ?_
  refine Dn_ald_n (i := 0) (q := 748) C dL_law_747 rfl rfl ?_
  refine Dn_ild_n (i := 3) (q := 749) C dL_law_748 rfl rfl ?_
  refine Dn_iconst (v := 4) (q := 750) C dL_law_749 (by decide) rfl ?_
  refine Dn_iadd (q := 751) C dL_law_750 rfl ?_
  refine Dn_sld (q := 752) C hL dL_law_751 rfl ?_
  refine Dn_callV (ci := 5) (T := TX5) (N := 25) (q := 755) C rfl (kX5_wind _ _ _) q_1027 q_1024 q_1025 q_1026 q_50 ⟨rfl, rfl⟩ (by decide +kernel) ⟨by decide, by decide⟩ dL_law_752 rfl ?_
  refine Dn_iceq (t := 862) (q := 758) C dL_law_755 (by decide) rfl ?_ ?_
  · exact JL_law_862 C hX hL B18 hB18
  · refine Dn_iconst (v := 0) (q := 759) C dL_law_758 (by decide) rfl ?_
    exact Dn_ret1 C hX dL_law_759
def jL_law_684 (Ls : Nat) (xs : Nat → Int32) (B18 : mK) : mK := i_ald 1 (i_ald 0 (i_ild 3 (i_push (.int 1) (i_ib (fun x y => x + y) (i_sld Ls xs (i_callV 4 1 FX4_way (i_ald 2 (i_ald 0 (i_ild 3 (i_push (.int 1) (i_ib (fun x y => x + y) (i_sld Ls xs (i_callV 5 1 FX5_way (i_iceq ((jL_law_862 Ls xs B18)) (i_push (.int 0) (i_ret1))))))))))))))))
set_option maxRecDepth 20000 in
theorem JL_law_684 {X : mC} {b Ls : Nat} {xs : Nat → Int32} (C : Cx X room_1 cL_law 4 RL ret) (hX : Ex X) (hL : Lx X b Ls xs) (B18 : mK) (hB18 : Den X room_1 4 18 B18) : Den X room_1 4 684 (jL_law_684 Ls xs B18) := by
  unfold jL_law_684
  refine Dn_ald_n (i := 1) (q := 685) C dL_law_684 rfl rfl ?_
  refine Dn_ald_n (i := 0) (q := 686) C dL_law_685 rfl rfl ?_
  refine Dn_ild_n (i := 3) (q := 687) C dL_law_686 rfl rfl ?_
  refine Dn_iconst (v := 1) (q := 688) C dL_law_687 (by decide) rfl ?_
  refine Dn_iadd (q := 689) C dL_law_688 rfl ?_
  refine Dn_sld (q := 690) C hL dL_law_689 rfl ?_
  refine Dn_callV (ci := 4) (T := TX4) (N := 17) (q := 693) C rfl (kX4_way _ _ _) q_662 q_659 q_660 q_661 q_44 ⟨rfl, rfl⟩ (by decide +kernel) ⟨by decide, by decide⟩ dL_law_690 rfl ?_
  refine Dn_ald_n (i := 2) (q := 694) C dL_law_693 rfl rfl ?_
  refine Dn_ald_n (i := 0) (q := 695) C dL_law_694 rfl rfl ?_
  refine Dn_ild_n (i := 3) (q := 696) C dL_law_695 rfl rfl ?_
  refine Dn_iconst (v := 1) (q := 697) C dL_law_696 (by decide) rfl ?_
  refine Dn_iadd (q := 698) C dL_law_697 rfl ?_
  refine Dn_sld (q := 699) C hL dL_law_698 rfl ?_
  refine Dn_callV (ci := 5) (T := TX5) (N := 25) (q := 702) C rfl (kX5_way _ _ _) q_1019 q_1016 q_1017 q_1018 q_50 ⟨rfl, rfl⟩ (by decide +kernel) ⟨by decide, by decide⟩ dL_law_699 rfl ?_
  refine Dn_iceq (t := 862) (q := 705) C dL_law_702 (by decide) rfl ?_ ?_
  · exact JL_law_862 C hX hL B18 hB18
  · refine Dn_iconst (v := 0) (q := 706) C dL_law_705 (by decide) rfl ?_
    exact Dn_ret1 C hX dL_law_706
def jL_law_661 (Ls : Nat) (xs : Nat → Int32) (B18 : mK) : mK := i_ald 1 (i_ald 0 (i_ild 3 (i_push (.int 1) (i_ib (fun x y => x + y) (i_sld Ls xs (i_callV 4 1 FX4_price (i_ald 2 (i_ald 0 (i_ild 3 (i_push (.int 1) (i_ib (fun x y => x + y) (i_sld Ls xs (i_callV 5 1 FX5_price (i_iceq ((jL_law_862 Ls xs B18)) (i_push (.int 0) (i_ret1))))))))))))))))
set_option maxRecDepth 20000 in
theorem JL_law_661 {X : mC} {b Ls : Nat} {xs : Nat → Int32} (C : Cx X room_1 cL_law 4 RL ret) (hX : Ex X) (hL : Lx X b Ls xs) (B18 : mK) (hB18 : Den X room_1 4 18 B18) : Den X room_1 4 661 (jL_law_661 Ls xs B18) := by
  unfold jL_law_661
  refine Dn_ald_n (i := 1) (q := 662) C dL_law_661 rfl rfl ?_
  refine Dn_ald_n (i := 0) (q := 663) C dL_law_662 rfl rfl ?_
  refine Dn_ild_n (i := 3) (q := 664) C dL_law_663 rfl rfl ?_
  refine Dn_iconst (v := 1) (q := 665) C dL_law_664 (by decide) rfl ?_
  refine Dn_iadd (q := 666) C dL_law_665 rfl ?_
  refine Dn_sld (q := 667) C hL dL_law_666 rfl ?_
  refine Dn_callV (ci := 4) (T := TX4) (N := 17) (q := 670) C rfl (kX4_price _ _ _) q_658 q_655 q_656 q_657 q_44 ⟨rfl, rfl⟩ (by decide +kernel) ⟨by decide, by decide⟩ dL_law_667 rfl ?_
  refine Dn_ald_n (i := 2) (q := 671) C dL_law_670 rfl rfl ?_
  refine Dn_ald_n (i := 0) (q := 672) C dL_law_671 rfl rfl ?_
  refine Dn_ild_n (i := 3) (q := 673) C dL_law_672 rfl rfl ?_
  refine Dn_iconst (v := 1) (q := 674) C dL_law_673 (by decide) rfl ?_
  refine Dn_iadd (q := 675) C dL_law_674 rfl ?_
  refine Dn_sld (q := 676) C hL dL_law_675 rfl ?_
  refine Dn_callV (ci := 5) (T := TX5) (N := 25) (q := 679) C rfl (kX5_price _ _ _) q_1015 q_1012 q_1013 q_1014 q_50 ⟨rfl, rfl⟩ (by decide +kernel) ⟨by decide, by decide⟩ dL_law_676 rfl ?_
  refine Dn_iceq (t := 862) (q := 682) C dL_law_679 (by decide) rfl ?_ ?_
  · exact JL_law_862 C hX hL B18 hB18
  · refine Dn_iconst (v := 0) (q := 683) C dL_law_682 (by decide) rfl ?_
    exact Dn_ret1 C hX dL_law_683
def jL_law_648 (Ls : Nat) (xs : Nat → Int32) (B18 : mK) : mK := i_ald 1 (i_callV 4 0 FX4_margin (i_ald 2 (i_callV 5 0 FX5_margin (i_iceq ((jL_law_862 Ls xs B18)) (i_push (.int 0) (i_ret1))))))
set_option maxRecDepth 20000 in
theorem JL_law_648 {X : mC} {b Ls : Nat} {xs : Nat → Int32} (C : Cx X room_1 cL_law 4 RL ret) (hX : Ex X) (hL : Lx X b Ls xs) (B18 : mK) (hB18 : Den X room_1 4 18 B18) : Den X room_1 4 648 (jL_law_648 Ls xs B18) := by
  unfold jL_law_648
  refine Dn_ald_n (i := 1) (q := 649) C dL_law_648 rfl rfl ?_
  refine Dn_callV (ci := 4) (T := TX4) (N := 17) (q := 652) C rfl (kX4_margin _ _ _) q_653 q_650 q_651 q_652 q_44 ⟨rfl, rfl⟩ (by decide +kernel) ⟨by decide, by decide⟩ dL_law_649 rfl ?_
  refine Dn_ald_n (i := 2) (q := 653) C dL_law_652 rfl rfl ?_
  refine Dn_callV (ci := 5) (T := TX5) (N := 25) (q := 656) C rfl (kX5_margin _ _ _) q_1011 q_1008 q_1009 q_1010 q_50 ⟨rfl, rfl⟩ (by decide +kernel) ⟨by decide, by decide⟩ dL_law_653 rfl ?_
  refine Dn_iceq (t := 862) (q := 659) C dL_law_656 (by decide) rfl ?_ ?_
  · exact JL_law_862 C hX hL B18 hB18
  · refine Dn_iconst (v := 0) (q := 660) C dL_law_659 (by decide) rfl ?_
    exact Dn_ret1 C hX dL_law_660
def jL_law_624 (Ls : Nat) (xs : Nat → Int32) (B18 : mK) : mK := i_ald 1 (i_ald 0 (i_ild 3 (i_push (.int 1) (i_ib (fun x y => x + y) (i_sld Ls xs (i_callV 4 1 FX4_hedged (i_ald 2 (i_ald 0 (i_ild 3 (i_push (.int 1) (i_ib (fun x y => x + y) (i_sld Ls xs (i_callV 5 1 FX5_hedged (i_lcmp (i_ifeq ((jL_law_862 Ls xs B18)) (i_push (.int 0) (i_ret1)))))))))))))))))
set_option maxRecDepth 20000 in
theorem JL_law_624 {X : mC} {b Ls : Nat} {xs : Nat → Int32} (C : Cx X room_1 cL_law 4 RL ret) (hX : Ex X) (hL : Lx X b Ls xs) (B18 : mK) (hB18 : Den X room_1 4 18 B18) : Den X room_1 4 624 (jL_law_624 Ls xs B18) := by
  unfold jL_law_624
  refine Dn_ald_n (i := 1) (q := 625) C dL_law_624 rfl rfl ?_
  refine Dn_ald_n (i := 0) (q := 626) C dL_law_625 rfl rfl ?_
  refine Dn_ild_n (i := 3) (q := 627) C dL_law_626 rfl rfl ?_
  refine Dn_iconst (v := 1) (q := 628) C dL_law_627 (by decide) rfl ?_
  refine Dn_iadd (q := 629) C dL_law_628 rfl ?_
  refine Dn_sld (q := 630) C hL dL_law_629 rfl ?_
  refine Dn_callV (ci := 4) (T := TX4) (N := 17) (q := 633) C rfl (kX4_hedged _ _ _) q_630 q_627 q_628 q_629 q_44 ⟨rfl, rfl⟩ (by decide +kernel) ⟨by decide, by decide⟩ dL_law_630 rfl ?_
  refine Dn_ald_n (i := 2) (q := 634) C dL_law_633 rfl rfl ?_
  refine Dn_ald_n (i := 0) (q := 635) C dL_law_634 rfl rfl ?_
  refine Dn_ild_n (i := 3) (q := 636) C dL_law_635 rfl rfl ?_
  refine Dn_iconst (v := 1) (q := 637) C dL_law_636 (by decide) rfl ?_
  refine Dn_iadd (q := 638) C dL_law_637 rfl ?_
  refine Dn_sld (q := 639) C hL dL_law_638 rfl ?_
  refine Dn_callV (ci := 5) (T := TX5) (N := 25) (q := 642) C rfl (kX5_hedged _ _ _) q_994 q_991 q_992 q_993 q_50 ⟨rfl, rfl⟩ (by decide +kernel) ⟨by decide, by decide⟩ dL_law_639 rfl ?_
  refine Dn_lcmp (q := 643) C dL_law_642 rfl ?_
  refine Dn_ifeq (t := 862) (q := 646) C dL_law_643 (by decide) rfl ?_ ?_
  · exact JL_law_862 C hX hL B18 hB18
  · refine Dn_iconst (v := 0) (q := 647) C dL_law_646 (by decide) rfl ?_
    exact Dn_ret1 C hX dL_law_647
def jL_law_601 (Ls : Nat) (xs : Nat → Int32) (B18 : mK) : mK := i_ald 1 (i_ald 0 (i_ild 3 (i_push (.int 1) (i_ib (fun x y => x + y) (i_sld Ls xs (i_callV 4 1 FX4_sides (i_ald 2 (i_ald 0 (i_ild 3 (i_push (.int 1) (i_ib (fun x y => x + y) (i_sld Ls xs (i_callV 5 1 FX5_sides (i_iceq ((jL_law_862 Ls xs B18)) (i_push (.int 0) (i_ret1))))))))))))))))
set_option maxRecDepth 20000 in
theorem JL_law_601 {X : mC} {b Ls : Nat} {xs : Nat → Int32} (C : Cx X room_1 cL_law 4 RL ret) (hX : Ex X) (hL : Lx X b Ls xs) (B18 : mK) (hB18 : Den X room_1 4 18 B18) : Den X room_1 4 601 (jL_law_601 Ls xs B18) := by
  unfold jL_law_601
  refine Dn_ald_n (i := 1) (q := 602) C dL_law_601 rfl rfl ?_
  refine Dn_ald_n (i := 0) (q := 603) C dL_law_602 rfl rfl ?_
  refine Dn_ild_n (i := 3) (q := 604) C dL_law_603 rfl rfl ?_
  refine Dn_iconst (v := 1) (q := 605) C dL_law_604 (by decide) rfl ?_
  refine Dn_iadd (q := 606) C dL_law_605 rfl ?_
  refine Dn_sld (q := 607) C hL dL_law_606 rfl ?_
  refine Dn_callV (ci := 4) (T := TX4) (N := 17) (q := 610) C rfl (kX4_sides _ _ _) q_626 q_623 q_624 q_625 q_44 ⟨rfl, rfl⟩ (by decide +kernel) ⟨by decide, by decide⟩ dL_law_607 rfl ?_
  refine Dn_ald_n (i := 2) (q := 611) C dL_law_610 rfl rfl ?_
  refine Dn_ald_n (i := 0) (q := 612) C dL_law_611 rfl rfl ?_
  refine Dn_ild_n (i := 3) (q := 613) C dL_law_612 rfl rfl ?_
  refine Dn_iconst (v := 1) (q := 614) C dL_law_613 (by decide) rfl ?_
  refine Dn_iadd (q := 615) C dL_law_614 rfl ?_
  refine Dn_sld (q := 616) C hL dL_law_615 rfl ?_
  refine Dn_callV (ci := 5) (T := TX5) (N := 25) (q := 619) C rfl (kX5_sides _ _ _) q_990 q_987 q_988 q_989 q_50 ⟨rfl, rfl⟩ (by decide +kernel) ⟨by decide, by decide⟩ dL_law_616 rfl ?_
  refine Dn_iceq (t := 862) (q := 622) C dL_law_619 (by decide) rfl ?_ ?_
  · exact JL_law_862 C hX hL B18 hB18
  · refine Dn_iconst (v := 0) (q := 623) C dL_law_622 (by decide) rfl ?_
    exact Dn_ret1 C hX dL_law_623
def jL_law_577 (Ls : Nat) (xs : Nat → Int32) (B18 : mK) : mK := i_ald 1 (i_ald 0 (i_ild 3 (i_push (.int 1) (i_ib (fun x y => x + y) (i_sld Ls xs (i_callV 4 1 FX4_stands (i_ald 2 (i_ald 0 (i_ild 3 (i_push (.int 1) (i_ib (fun x y => x + y) (i_sld Ls xs (i_callV 5 1 FX5_stands (i_lcmp (i_ifeq ((jL_law_862 Ls xs B18)) (i_push (.int 0) (i_ret1)))))))))))))))))
set_option maxRecDepth 20000 in
theorem JL_law_577 {X : mC} {b Ls : Nat} {xs : Nat → Int32} (C : Cx X room_1 cL_law 4 RL ret) (hX : Ex X) (hL : Lx X b Ls xs) (B18 : mK) (hB18 : Den X room_1 4 18 B18) : Den X room_1 4 577 (jL_law_577 Ls xs B18) := by
  unfold jL_law_577
  refine Dn_ald_n (i := 1) (q := 578) C dL_law_577 rfl rfl ?_
  refine Dn_ald_n (i := 0) (q := 579) C dL_law_578 rfl rfl ?_
  refine Dn_ild_n (i := 3) (q := 580) C dL_law_579 rfl rfl ?_
  refine Dn_iconst (v := 1) (q := 581) C dL_law_580 (by decide) rfl ?_
  refine Dn_iadd (q := 582) C dL_law_581 rfl ?_
  refine Dn_sld (q := 583) C hL dL_law_582 rfl ?_
  refine Dn_callV (ci := 4) (T := TX4) (N := 17) (q := 586) C rfl (kX4_stands _ _ _) q_615 q_612 q_613 q_614 q_44 ⟨rfl, rfl⟩ (by decide +kernel) ⟨by decide, by decide⟩ dL_law_583 rfl ?_
  refine Dn_ald_n (i := 2) (q := 587) C dL_law_586 rfl rfl ?_
  refine Dn_ald_n (i := 0) (q := 588) C dL_law_587 rfl rfl ?_
  refine Dn_ild_n (i := 3) (q := 589) C dL_law_588 rfl rfl ?_
  refine Dn_iconst (v := 1) (q := 590) C dL_law_589 (by decide) rfl ?_
  refine Dn_iadd (q := 591) C dL_law_590 rfl ?_
  refine Dn_sld (q := 592) C hL dL_law_591 rfl ?_
  refine Dn_callV (ci := 5) (T := TX5) (N := 25) (q := 595) C rfl (kX5_stands _ _ _) q_985 q_982 q_983 q_984 q_50 ⟨rfl, rfl⟩ (by decide +kernel) ⟨by decide, by decide⟩ dL_law_592 rfl ?_
  refine Dn_lcmp (q := 596) C dL_law_595 rfl ?_
  refine Dn_ifeq (t := 862) (q := 599) C dL_law_596 (by decide) rfl ?_ ?_
  · exact JL_law_862 C hX hL B18 hB18
  · refine Dn_iconst (v := 0) (q := 600) C dL_law_599 (by decide) rfl ?_
    exact Dn_ret1 C hX dL_law_600
def jL_law_554 (Ls : Nat) (xs : Nat → Int32) (B18 : mK) : mK := i_ald 1 (i_ald 0 (i_ild 3 (i_push (.int 1) (i_ib (fun x y => x + y) (i_sld Ls xs (i_callV 4 1 FX4_most (i_ald 2 (i_ald 0 (i_ild 3 (i_push (.int 1) (i_ib (fun x y => x + y) (i_sld Ls xs (i_callV 5 1 FX5_most (i_iceq ((jL_law_862 Ls xs B18)) (i_push (.int 0) (i_ret1))))))))))))))))
set_option maxRecDepth 20000 in
theorem JL_law_554 {X : mC} {b Ls : Nat} {xs : Nat → Int32} (C : Cx X room_1 cL_law 4 RL ret) (hX : Ex X) (hL : Lx X b Ls xs) (B18 : mK) (hB18 : Den X room_1 4 18 B18) : Den X room_1 4 554 (jL_law_554 Ls xs B18) := by
  unfold jL_law_554
  refine Dn_ald_n (i := 1) (q := 555) C dL_law_554 rfl rfl ?_
  refine Dn_ald_n (i := 0) (q := 556) C dL_law_555 rfl rfl ?_
  refine Dn_ild_n (i := 3) (q := 557) C dL_law_556 rfl rfl ?_
  refine Dn_iconst (v := 1) (q := 558) C dL_law_557 (by decide) rfl ?_
  refine Dn_iadd (q := 559) C dL_law_558 rfl ?_
  refine Dn_sld (q := 560) C hL dL_law_559 rfl ?_
  refine Dn_callV (ci := 4) (T := TX4) (N := 17) (q := 563) C rfl (kX4_most _ _ _) q_594 q_591 q_592 q_593 q_44 ⟨rfl, rfl⟩ (by decide +kernel) ⟨by decide, by decide⟩ dL_law_560 rfl ?_
  refine Dn_ald_n (i := 2) (q := 564) C dL_law_563 rfl rfl ?_
  refine Dn_ald_n (i := 0) (q := 565) C dL_law_564 rfl rfl ?_
  refine Dn_ild_n (i := 3) (q := 566) C dL_law_565 rfl rfl ?_
  refine Dn_iconst (v := 1) (q := 567) C dL_law_566 (by decide) rfl ?_
  refine Dn_iadd (q := 568) C dL_law_567 rfl ?_
  refine Dn_sld (q := 569) C hL dL_law_568 rfl ?_
  refine Dn_callV (ci := 5) (T := TX5) (N := 25) (q := 572) C rfl (kX5_most _ _ _) q_969 q_966 q_967 q_968 q_50 ⟨rfl, rfl⟩ (by decide +kernel) ⟨by decide, by decide⟩ dL_law_569 rfl ?_
  refine Dn_iceq (t := 862) (q := 575) C dL_law_572 (by decide) rfl ?_ ?_
  · exact JL_law_862 C hX hL B18 hB18
  · refine Dn_iconst (v := 0) (q := 576) C dL_law_575 (by decide) rfl ?_
    exact Dn_ret1 C hX dL_law_576
def jL_law_531 (Ls : Nat) (xs : Nat → Int32) (B18 : mK) : mK := i_ald 1 (i_ald 0 (i_ild 3 (i_push (.int 1) (i_ib (fun x y => x + y) (i_sld Ls xs (i_callV 4 1 FX4_first (i_ald 2 (i_ald 0 (i_ild 3 (i_push (.int 1) (i_ib (fun x y => x + y) (i_sld Ls xs (i_callV 5 1 FX5_first (i_iceq ((jL_law_862 Ls xs B18)) (i_push (.int 0) (i_ret1))))))))))))))))
set_option maxRecDepth 20000 in
theorem JL_law_531 {X : mC} {b Ls : Nat} {xs : Nat → Int32} (C : Cx X room_1 cL_law 4 RL ret) (hX : Ex X) (hL : Lx X b Ls xs) (B18 : mK) (hB18 : Den X room_1 4 18 B18) : Den X room_1 4 531 (jL_law_531 Ls xs B18) := by
  unfold jL_law_531
  refine Dn_ald_n (i := 1) (q := 532) C dL_law_531 rfl rfl ?_
  refine Dn_ald_n (i := 0) (q := 533) C dL_law_532 rfl rfl ?_
  refine Dn_ild_n (i := 3) (q := 534) C dL_law_533 rfl rfl ?_
  refine Dn_iconst (v := 1) (q := 535) C dL_law_534 (by decide) rfl ?_
  refine Dn_iadd (q := 536) C dL_law_535 rfl ?_
  refine Dn_sld (q := 537) C hL dL_law_536 rfl ?_
  refine Dn_callV (ci := 4) (T := TX4) (N := 17) (q := 540) C rfl (kX4_first _ _ _) q_581 q_578 q_579 q_580 q_44 ⟨rfl, rfl⟩ (by decide +kernel) ⟨by decide, by decide⟩ dL_law_537 rfl ?_
  refine Dn_ald_n (i := 2) (q := 541) C dL_law_540 rfl rfl ?_
  refine Dn_ald_n (i := 0) (q := 542) C dL_law_541 rfl rfl ?_
  refine Dn_ild_n (i := 3) (q := 543) C dL_law_542 rfl rfl ?_
  refine Dn_iconst (v := 1) (q := 544) C dL_law_543 (by decide) rfl ?_
  refine Dn_iadd (q := 545) C dL_law_544 rfl ?_
  refine Dn_sld (q := 546) C hL dL_law_545 rfl ?_
  refine Dn_callV (ci := 5) (T := TX5) (N := 25) (q := 549) C rfl (kX5_first _ _ _) q_960 q_957 q_958 q_959 q_50 ⟨rfl, rfl⟩ (by decide +kernel) ⟨by decide, by decide⟩ dL_law_546 rfl ?_
  refine Dn_iceq (t := 862) (q := 552) C dL_law_549 (by decide) rfl ?_ ?_
  · exact JL_law_862 C hX hL B18 hB18
  · refine Dn_iconst (v := 0) (q := 553) C dL_law_552 (by decide) rfl ?_
    exact Dn_ret1 C hX dL_law_553
def jL_law_508 (Ls : Nat) (xs : Nat → Int32) (B18 : mK) : mK := i_ald 1 (i_ald 0 (i_ild 3 (i_push (.int 1) (i_ib (fun x y => x + y) (i_sld Ls xs (i_callV 4 1 FX4_back (i_ald 2 (i_ald 0 (i_ild 3 (i_push (.int 1) (i_ib (fun x y => x + y) (i_sld Ls xs (i_callV 5 1 FX5_back (i_iceq ((jL_law_862 Ls xs B18)) (i_push (.int 0) (i_ret1))))))))))))))))
set_option maxRecDepth 20000 in
theorem JL_law_508 {X : mC} {b Ls : Nat} {xs : Nat → Int32} (C : Cx X room_1 cL_law 4 RL ret) (hX : Ex X) (hL : Lx X b Ls xs) (B18 : mK) (hB18 : Den X room_1 4 18 B18) : Den X room_1 4 508 (jL_law_508 Ls xs B18) := by
  unfold jL_law_508
  refine Dn_ald_n (i := 1) (q := 509) C dL_law_508 rfl rfl ?_
  refine Dn_ald_n (i := 0) (q := 510) C dL_law_509 rfl rfl ?_
  refine Dn_ild_n (i := 3) (q := 511) C dL_law_510 rfl rfl ?_
  refine Dn_iconst (v := 1) (q := 512) C dL_law_511 (by decide) rfl ?_
  refine Dn_iadd (q := 513) C dL_law_512 rfl ?_
  refine Dn_sld (q := 514) C hL dL_law_513 rfl ?_
  refine Dn_callV (ci := 4) (T := TX4) (N := 17) (q := 517) C rfl (kX4_back _ _ _) q_577 q_574 q_575 q_576 q_44 ⟨rfl, rfl⟩ (by decide +kernel) ⟨by decide, by decide⟩ dL_law_514 rfl ?_
  refine Dn_ald_n (i := 2) (q := 518) C dL_law_517 rfl rfl ?_
  refine Dn_ald_n (i := 0) (q := 519) C dL_law_518 rfl rfl ?_
  refine Dn_ild_n (i := 3) (q := 520) C dL_law_519 rfl rfl ?_
  refine Dn_iconst (v := 1) (q := 521) C dL_law_520 (by decide) rfl ?_
  refine Dn_iadd (q := 522) C dL_law_521 rfl ?_
  refine Dn_sld (q := 523) C hL dL_law_522 rfl ?_
  refine Dn_callV (ci := 5) (T := TX5) (N := 25) (q := 526) C rfl (kX5_back _ _ _) q_956 q_953 q_954 q_955 q_50 ⟨rfl, rfl⟩ (by decide +kernel) ⟨by decide, by decide⟩ dL_law_523 rfl ?_
  refine Dn_iceq (t := 862) (q := 529) C dL_law_526 (by decide) rfl ?_ ?_
  · exact JL_law_862 C hX hL B18 hB18
  · refine Dn_iconst (v := 0) (q := 530) C dL_law_529 (by decide) rfl ?_
    exact Dn_ret1 C hX dL_law_530
def jL_law_485 (Ls : Nat) (xs : Nat → Int32) (B18 : mK) : mK := i_ald 1 (i_ald 0 (i_ild 3 (i_push (.int 1) (i_ib (fun x y => x + y) (i_sld Ls xs (i_callV 4 1 FX4_keep (i_ald 2 (i_ald 0 (i_ild 3 (i_push (.int 1) (i_ib (fun x y => x + y) (i_sld Ls xs (i_callV 5 1 FX5_keep (i_iceq ((jL_law_862 Ls xs B18)) (i_push (.int 0) (i_ret1))))))))))))))))
set_option maxRecDepth 20000 in
theorem JL_law_485 {X : mC} {b Ls : Nat} {xs : Nat → Int32} (C : Cx X room_1 cL_law 4 RL ret) (hX : Ex X) (hL : Lx X b Ls xs) (B18 : mK) (hB18 : Den X room_1 4 18 B18) : Den X room_1 4 485 (jL_law_485 Ls xs B18) := by
  unfold jL_law_485
  refine Dn_ald_n (i := 1) (q := 486) C dL_law_485 rfl rfl ?_
  refine Dn_ald_n (i := 0) (q := 487) C dL_law_486 rfl rfl ?_
  refine Dn_ild_n (i := 3) (q := 488) C dL_law_487 rfl rfl ?_
  refine Dn_iconst (v := 1) (q := 489) C dL_law_488 (by decide) rfl ?_
  refine Dn_iadd (q := 490) C dL_law_489 rfl ?_
  refine Dn_sld (q := 491) C hL dL_law_490 rfl ?_
  refine Dn_callV (ci := 4) (T := TX4) (N := 17) (q := 494) C rfl (kX4_keep _ _ _) q_573 q_570 q_571 q_572 q_44 ⟨rfl, rfl⟩ (by decide +kernel) ⟨by decide, by decide⟩ dL_law_491 rfl ?_
  refine Dn_ald_n (i := 2) (q := 495) C dL_law_494 rfl rfl ?_
  refine Dn_ald_n (i := 0) (q := 496) C dL_law_495 rfl rfl ?_
  refine Dn_ild_n (i := 3) (q := 497) C dL_law_496 rfl rfl ?_
  refine Dn_iconst (v := 1) (q := 498) C dL_law_497 (by decide) rfl ?_
  refine Dn_iadd (q := 499) C dL_law_498 rfl ?_
  refine Dn_sld (q := 500) C hL dL_law_499 rfl ?_
  refine Dn_callV (ci := 5) (T := TX5) (N := 25) (q := 503) C rfl (kX5_keep _ _ _) q_948 q_945 q_946 q_947 q_50 ⟨rfl, rfl⟩ (by decide +kernel) ⟨by decide, by decide⟩ dL_law_500 rfl ?_
  refine Dn_iceq (t := 862) (q := 506) C dL_law_503 (by decide) rfl ?_ ?_
  · exact JL_law_862 C hX hL B18 hB18
  · refine Dn_iconst (v := 0) (q := 507) C dL_law_506 (by decide) rfl ?_
    exact Dn_ret1 C hX dL_law_507
def jL_law_462 (Ls : Nat) (xs : Nat → Int32) (B18 : mK) : mK := i_ald 1 (i_ald 0 (i_ild 3 (i_push (.int 1) (i_ib (fun x y => x + y) (i_sld Ls xs (i_callV 4 1 FX4_step (i_ald 2 (i_ald 0 (i_ild 3 (i_push (.int 1) (i_ib (fun x y => x + y) (i_sld Ls xs (i_callV 5 1 FX5_step (i_iceq ((jL_law_862 Ls xs B18)) (i_push (.int 0) (i_ret1))))))))))))))))
set_option maxRecDepth 20000 in
theorem JL_law_462 {X : mC} {b Ls : Nat} {xs : Nat → Int32} (C : Cx X room_1 cL_law 4 RL ret) (hX : Ex X) (hL : Lx X b Ls xs) (B18 : mK) (hB18 : Den X room_1 4 18 B18) : Den X room_1 4 462 (jL_law_462 Ls xs B18) := by
  unfold jL_law_462
  refine Dn_ald_n (i := 1) (q := 463) C dL_law_462 rfl rfl ?_
  refine Dn_ald_n (i := 0) (q := 464) C dL_law_463 rfl rfl ?_
  refine Dn_ild_n (i := 3) (q := 465) C dL_law_464 rfl rfl ?_
  refine Dn_iconst (v := 1) (q := 466) C dL_law_465 (by decide) rfl ?_
  refine Dn_iadd (q := 467) C dL_law_466 rfl ?_
  refine Dn_sld (q := 468) C hL dL_law_467 rfl ?_
  refine Dn_callV (ci := 4) (T := TX4) (N := 17) (q := 471) C rfl (kX4_step _ _ _) q_559 q_556 q_557 q_558 q_44 ⟨rfl, rfl⟩ (by decide +kernel) ⟨by decide, by decide⟩ dL_law_468 rfl ?_
  refine Dn_ald_n (i := 2) (q := 472) C dL_law_471 rfl rfl ?_
  refine Dn_ald_n (i := 0) (q := 473) C dL_law_472 rfl rfl ?_
  refine Dn_ild_n (i := 3) (q := 474) C dL_law_473 rfl rfl ?_
  refine Dn_iconst (v := 1) (q := 475) C dL_law_474 (by decide) rfl ?_
  refine Dn_iadd (q := 476) C dL_law_475 rfl ?_
  refine Dn_sld (q := 477) C hL dL_law_476 rfl ?_
  refine Dn_callV (ci := 5) (T := TX5) (N := 25) (q := 480) C rfl (kX5_step _ _ _) q_940 q_937 q_938 q_939 q_50 ⟨rfl, rfl⟩ (by decide +kernel) ⟨by decide, by decide⟩ dL_law_477 rfl ?_
  refine Dn_iceq (t := 862) (q := 483) C dL_law_480 (by decide) rfl ?_ ?_
  · exact JL_law_862 C hX hL B18 hB18
  · refine Dn_iconst (v := 0) (q := 484) C dL_law_483 (by decide) rfl ?_
    exact Dn_ret1 C hX dL_law_484
def jL_law_429 (Ls : Nat) (xs : Nat → Int32) (B18 : mK) : mK := i_ald 1 (i_ald 0 (i_ild 3 (i_push (.int 1) (i_ib (fun x y => x + y) (i_sld Ls xs (i_ald 0 (i_ild 3 (i_push (.int 2) (i_ib (fun x y => x + y) (i_sld Ls xs (i_callV 4 2 FX4_noise (i_ald 2 (i_ald 0 (i_ild 3 (i_push (.int 1) (i_ib (fun x y => x + y) (i_sld Ls xs (i_ald 0 (i_ild 3 (i_push (.int 2) (i_ib (fun x y => x + y) (i_sld Ls xs (i_callV 5 2 FX5_noise (i_iceq ((jL_law_862 Ls xs B18)) (i_push (.int 0) (i_ret1))))))))))))))))))))))))))
set_option maxRecDepth 20000 in
theorem JL_law_429 {X : mC} {b Ls : Nat} {xs : Nat → Int32} (C : Cx X room_1 cL_law 4 RL ret) (hX : Ex X) (hL : Lx X b Ls xs) (B18 : mK) (hB18 : Den X room_1 4 18 B18) : Den X room_1 4 429 (jL_law_429 Ls xs B18) := by
  unfold jL_law_429
  refine Dn_ald_n (i := 1) (q := 430) C dL_law_429 rfl rfl ?_
  refine Dn_ald_n (i := 0) (q := 431) C dL_law_430 rfl rfl ?_
  refine Dn_ild_n (i := 3) (q := 432) C dL_law_431 rfl rfl ?_
  refine Dn_iconst (v := 1) (q := 433) C dL_law_432 (by decide) rfl ?_
  refine Dn_iadd (q := 434) C dL_law_433 rfl ?_
  refine Dn_sld (q := 435) C hL dL_law_434 rfl ?_
  refine Dn_ald_n (i := 0) (q := 436) C dL_law_435 rfl rfl ?_
  refine Dn_ild_n (i := 3) (q := 437) C dL_law_436 rfl rfl ?_
  refine Dn_iconst (v := 2) (q := 438) C dL_law_437 (by decide) rfl ?_
  refine Dn_iadd (q := 439) C dL_law_438 rfl ?_
  refine Dn_sld (q := 440) C hL dL_law_439 rfl ?_
  refine Dn_callV (ci := 4) (T := TX4) (N := 17) (q := 443) C rfl (kX4_noise _ _ _) q_555 q_552 q_553 q_554 q_44 ⟨rfl, rfl⟩ (by decide +kernel) ⟨by decide, by decide⟩ dL_law_440 rfl ?_
  refine Dn_ald_n (i := 2) (q := 444) C dL_law_443 rfl rfl ?_
  refine Dn_ald_n (i := 0) (q := 445) C dL_law_444 rfl rfl ?_
  refine Dn_ild_n (i := 3) (q := 446) C dL_law_445 rfl rfl ?_
  refine Dn_iconst (v := 1) (q := 447) C dL_law_446 (by decide) rfl ?_
  refine Dn_iadd (q := 448) C dL_law_447 rfl ?_
  refine Dn_sld (q := 449) C hL dL_law_448 rfl ?_
  refine Dn_ald_n (i := 0) (q := 450) C dL_law_449 rfl rfl ?_
  refine Dn_ild_n (i := 3) (q := 451) C dL_law_450 rfl rfl ?_
  refine Dn_iconst (v := 2) (q := 452) C dL_law_451 (by decide) rfl ?_
  refine Dn_iadd (q := 453) C dL_law_452 rfl ?_
  refine Dn_sld (q := 454) C hL dL_law_453 rfl ?_
  refine Dn_callV (ci := 5) (T := TX5) (N := 25) (q := 457) C rfl (kX5_noise _ _ _) q_932 q_929 q_930 q_931 q_50 ⟨rfl, rfl⟩ (by decide +kernel) ⟨by decide, by decide⟩ dL_law_454 rfl ?_
  refine Dn_iceq (t := 862) (q := 460) C dL_law_457 (by decide) rfl ?_ ?_
  · exact JL_law_862 C hX hL B18 hB18
  · refine Dn_iconst (v := 0) (q := 461) C dL_law_460 (by decide) rfl ?_
    exact Dn_ret1 C hX dL_law_461
def jL_law_386 (Ls : Nat) (xs : Nat → Int32) (B18 : mK) : mK := i_ald 1 (i_ald 0 (i_ild 3 (i_push (.int 1) (i_ib (fun x y => x + y) (i_sld Ls xs (i_ald 0 (i_ild 3 (i_push (.int 2) (i_ib (fun x y => x + y) (i_sld Ls xs (i_ald 0 (i_ild 3 (i_push (.int 3) (i_ib (fun x y => x + y) (i_sld Ls xs (i_callV 4 3 FX4_sound (i_ald 2 (i_ald 0 (i_ild 3 (i_push (.int 1) (i_ib (fun x y => x + y) (i_sld Ls xs (i_ald 0 (i_ild 3 (i_push (.int 2) (i_ib (fun x y => x + y) (i_sld Ls xs (i_ald 0 (i_ild 3 (i_push (.int 3) (i_ib (fun x y => x + y) (i_sld Ls xs (i_callV 5 3 FX5_sound (i_iceq ((jL_law_862 Ls xs B18)) (i_push (.int 0) (i_ret1))))))))))))))))))))))))))))))))))))
set_option maxRecDepth 20000 in
theorem JL_law_386 {X : mC} {b Ls : Nat} {xs : Nat → Int32} (C : Cx X room_1 cL_law 4 RL ret) (hX : Ex X) (hL : Lx X b Ls xs) (B18 : mK) (hB18 : Den X room_1 4 18 B18) : Den X room_1 4 386 (jL_law_386 Ls xs B18) := by
  unfold jL_law_386
  refine Dn_ald_n (i := 1) (q := 387) C dL_law_386 rfl rfl ?_
  refine Dn_ald_n (i := 0) (q := 388) C dL_law_387 rfl rfl ?_
  refine Dn_ild_n (i := 3) (q := 389) C dL_law_388 rfl rfl ?_
  refine Dn_iconst (v := 1) (q := 390) C dL_law_389 (by decide) rfl ?_
  refine Dn_iadd (q := 391) C dL_law_390 rfl ?_
  refine Dn_sld (q := 392) C hL dL_law_391 rfl ?_
  refine Dn_ald_n (i := 0) (q := 393) C dL_law_392 rfl rfl ?_
  refine Dn_ild_n (i := 3) (q := 394) C dL_law_393 rfl rfl ?_
  refine Dn_iconst (v := 2) (q := 395) C dL_law_394 (by decide) rfl ?_
  refine Dn_iadd (q := 396) C dL_law_395 rfl ?_
  refine Dn_sld (q := 397) C hL dL_law_396 rfl ?_
  refine Dn_ald_n (i := 0) (q := 398) C dL_law_397 rfl rfl ?_
  refine Dn_ild_n (i := 3) (q := 399) C dL_law_398 rfl rfl ?_
  refine Dn_iconst (v := 3) (q := 400) C dL_law_399 (by decide) rfl ?_
  refine Dn_iadd (q := 401) C dL_law_400 rfl ?_
  refine Dn_sld (q := 402) C hL dL_law_401 rfl ?_
  refine Dn_callV (ci := 4) (T := TX4) (N := 17) (q := 405) C rfl (kX4_sound _ _ _) q_550 q_547 q_548 q_549 q_44 ⟨rfl, rfl⟩ (by decide +kernel) ⟨by decide, by decide⟩ dL_law_402 rfl ?_
  refine Dn_ald_n (i := 2) (q := 406) C dL_law_405 rfl rfl ?_
  refine Dn_ald_n (i := 0) (q := 407) C dL_law_406 rfl rfl ?_
  refine Dn_ild_n (i := 3) (q := 408) C dL_law_407 rfl rfl ?_
  refine Dn_iconst (v := 1) (q := 409) C dL_law_408 (by decide) rfl ?_
  refine Dn_iadd (q := 410) C dL_law_409 rfl ?_
  refine Dn_sld (q := 411) C hL dL_law_410 rfl ?_
  refine Dn_ald_n (i := 0) (q := 412) C dL_law_411 rfl rfl ?_
  refine Dn_ild_n (i := 3) (q := 413) C dL_law_412 rfl rfl ?_
  refine Dn_iconst (v := 2) (q := 414) C dL_law_413 (by decide) rfl ?_
  refine Dn_iadd (q := 415) C dL_law_414 rfl ?_
  refine Dn_sld (q := 416) C hL dL_law_415 rfl ?_
  refine Dn_ald_n (i := 0) (q := 417) C dL_law_416 rfl rfl ?_
  refine Dn_ild_n (i := 3) (q := 418) C dL_law_417 rfl rfl ?_
  refine Dn_iconst (v := 3) (q := 419) C dL_law_418 (by decide) rfl ?_
  refine Dn_iadd (q := 420) C dL_law_419 rfl ?_
  refine Dn_sld (q := 421) C hL dL_law_420 rfl ?_
  refine Dn_callV (ci := 5) (T := TX5) (N := 25) (q := 424) C rfl (kX5_sound _ _ _) q_924 q_921 q_922 q_923 q_50 ⟨rfl, rfl⟩ (by decide +kernel) ⟨by decide, by decide⟩ dL_law_421 rfl ?_
  refine Dn_iceq (t := 862) (q := 427) C dL_law_424 (by decide) rfl ?_ ?_
  · exact JL_law_862 C hX hL B18 hB18
  · refine Dn_iconst (v := 0) (q := 428) C dL_law_427 (by decide) rfl ?_
    exact Dn_ret1 C hX dL_law_428
def jL_law_353 (Ls : Nat) (xs : Nat → Int32) (B18 : mK) : mK := i_ald 1 (i_ald 0 (i_ild 3 (i_push (.int 1) (i_ib (fun x y => x + y) (i_sld Ls xs (i_ald 0 (i_ild 3 (i_push (.int 2) (i_ib (fun x y => x + y) (i_sld Ls xs (i_callV 4 2 FX4_licence (i_ald 2 (i_ald 0 (i_ild 3 (i_push (.int 1) (i_ib (fun x y => x + y) (i_sld Ls xs (i_ald 0 (i_ild 3 (i_push (.int 2) (i_ib (fun x y => x + y) (i_sld Ls xs (i_callV 5 2 FX5_licence (i_iceq ((jL_law_862 Ls xs B18)) (i_push (.int 0) (i_ret1))))))))))))))))))))))))))
set_option maxRecDepth 20000 in
theorem JL_law_353 {X : mC} {b Ls : Nat} {xs : Nat → Int32} (C : Cx X room_1 cL_law 4 RL ret) (hX : Ex X) (hL : Lx X b Ls xs) (B18 : mK) (hB18 : Den X room_1 4 18 B18) : Den X room_1 4 353 (jL_law_353 Ls xs B18) := by
  unfold jL_law_353
  refine Dn_ald_n (i := 1) (q := 354) C dL_law_353 rfl rfl ?_
  refine Dn_ald_n (i := 0) (q := 355) C dL_law_354 rfl rfl ?_
  refine Dn_ild_n (i := 3) (q := 356) C dL_law_355 rfl rfl ?_
  refine Dn_iconst (v := 1) (q := 357) C dL_law_356 (by decide) rfl ?_
  refine Dn_iadd (q := 358) C dL_law_357 rfl ?_
  refine Dn_sld (q := 359) C hL dL_law_358 rfl ?_
  refine Dn_ald_n (i := 0) (q := 360) C dL_law_359 rfl rfl ?_
  refine Dn_ild_n (i := 3) (q := 361) C dL_law_360 rfl rfl ?_
  refine Dn_iconst (v := 2) (q := 362) C dL_law_361 (by decide) rfl ?_
  refine Dn_iadd (q := 363) C dL_law_362 rfl ?_
  refine Dn_sld (q := 364) C hL dL_law_363 rfl ?_
  refine Dn_callV (ci := 4) (T := TX4) (N := 17) (q := 367) C rfl (kX4_licence _ _ _) q_543 q_540 q_541 q_542 q_44 ⟨rfl, rfl⟩ (by decide +kernel) ⟨by decide, by decide⟩ dL_law_364 rfl ?_
  refine Dn_ald_n (i := 2) (q := 368) C dL_law_367 rfl rfl ?_
  refine Dn_ald_n (i := 0) (q := 369) C dL_law_368 rfl rfl ?_
  refine Dn_ild_n (i := 3) (q := 370) C dL_law_369 rfl rfl ?_
  refine Dn_iconst (v := 1) (q := 371) C dL_law_370 (by decide) rfl ?_
  refine Dn_iadd (q := 372) C dL_law_371 rfl ?_
  refine Dn_sld (q := 373) C hL dL_law_372 rfl ?_
  refine Dn_ald_n (i := 0) (q := 374) C dL_law_373 rfl rfl ?_
  refine Dn_ild_n (i := 3) (q := 375) C dL_law_374 rfl rfl ?_
  refine Dn_iconst (v := 2) (q := 376) C dL_law_375 (by decide) rfl ?_
  refine Dn_iadd (q := 377) C dL_law_376 rfl ?_
  refine Dn_sld (q := 378) C hL dL_law_377 rfl ?_
  refine Dn_callV (ci := 5) (T := TX5) (N := 25) (q := 381) C rfl (kX5_licence _ _ _) q_920 q_917 q_918 q_919 q_50 ⟨rfl, rfl⟩ (by decide +kernel) ⟨by decide, by decide⟩ dL_law_378 rfl ?_
  refine Dn_iceq (t := 862) (q := 384) C dL_law_381 (by decide) rfl ?_ ?_
  · exact JL_law_862 C hX hL B18 hB18
  · refine Dn_iconst (v := 0) (q := 385) C dL_law_384 (by decide) rfl ?_
    exact Dn_ret1 C hX dL_law_385
def jL_law_320 (Ls : Nat) (xs : Nat → Int32) (B18 : mK) : mK := i_ald 1 (i_ald 0 (i_ild 3 (i_push (.int 1) (i_ib (fun x y => x + y) (i_sld Ls xs (i_ald 0 (i_ild 3 (i_push (.int 2) (i_ib (fun x y => x + y) (i_sld Ls xs (i_callV 4 2 FX4_as (i_ald 2 (i_ald 0 (i_ild 3 (i_push (.int 1) (i_ib (fun x y => x + y) (i_sld Ls xs (i_ald 0 (i_ild 3 (i_push (.int 2) (i_ib (fun x y => x + y) (i_sld Ls xs (i_callV 5 2 FX5_as (i_iceq ((jL_law_862 Ls xs B18)) (i_push (.int 0) (i_ret1))))))))))))))))))))))))))
set_option maxRecDepth 20000 in
theorem JL_law_320 {X : mC} {b Ls : Nat} {xs : Nat → Int32} (C : Cx X room_1 cL_law 4 RL ret) (hX : Ex X) (hL : Lx X b Ls xs) (B18 : mK) (hB18 : Den X room_1 4 18 B18) : Den X room_1 4 320 (jL_law_320 Ls xs B18) := by
  unfold jL_law_320
  refine Dn_ald_n (i := 1) (q := 321) C dL_law_320 rfl rfl ?_
  refine Dn_ald_n (i := 0) (q := 322) C dL_law_321 rfl rfl ?_
  refine Dn_ild_n (i := 3) (q := 323) C dL_law_322 rfl rfl ?_
  refine Dn_iconst (v := 1) (q := 324) C dL_law_323 (by decide) rfl ?_
  refine Dn_iadd (q := 325) C dL_law_324 rfl ?_
  refine Dn_sld (q := 326) C hL dL_law_325 rfl ?_
  refine Dn_ald_n (i := 0) (q := 327) C dL_law_326 rfl rfl ?_
  refine Dn_ild_n (i := 3) (q := 328) C dL_law_327 rfl rfl ?_
  refine Dn_iconst (v := 2) (q := 329) C dL_law_328 (by decide) rfl ?_
  refine Dn_iadd (q := 330) C dL_law_329 rfl ?_
  refine Dn_sld (q := 331) C hL dL_law_330 rfl ?_
  refine Dn_callV (ci := 4) (T := TX4) (N := 17) (q := 334) C rfl (kX4_as _ _ _) q_523 q_520 q_521 q_522 q_44 ⟨rfl, rfl⟩ (by decide +kernel) ⟨by decide, by decide⟩ dL_law_331 rfl ?_
  refine Dn_ald_n (i := 2) (q := 335) C dL_law_334 rfl rfl ?_
  refine Dn_ald_n (i := 0) (q := 336) C dL_law_335 rfl rfl ?_
  refine Dn_ild_n (i := 3) (q := 337) C dL_law_336 rfl rfl ?_
  refine Dn_iconst (v := 1) (q := 338) C dL_law_337 (by decide) rfl ?_
  refine Dn_iadd (q := 339) C dL_law_338 rfl ?_
  refine Dn_sld (q := 340) C hL dL_law_339 rfl ?_
  refine Dn_ald_n (i := 0) (q := 341) C dL_law_340 rfl rfl ?_
  refine Dn_ild_n (i := 3) (q := 342) C dL_law_341 rfl rfl ?_
  refine Dn_iconst (v := 2) (q := 343) C dL_law_342 (by decide) rfl ?_
  refine Dn_iadd (q := 344) C dL_law_343 rfl ?_
  refine Dn_sld (q := 345) C hL dL_law_344 rfl ?_
  refine Dn_callV (ci := 5) (T := TX5) (N := 25) (q := 348) C rfl (kX5_as _ _ _) q_907 q_904 q_905 q_906 q_50 ⟨rfl, rfl⟩ (by decide +kernel) ⟨by decide, by decide⟩ dL_law_345 rfl ?_
  refine Dn_iceq (t := 862) (q := 351) C dL_law_348 (by decide) rfl ?_ ?_
  · exact JL_law_862 C hX hL B18 hB18
  · refine Dn_iconst (v := 0) (q := 352) C dL_law_351 (by decide) rfl ?_
    exact Dn_ret1 C hX dL_law_352
def jL_law_287 (Ls : Nat) (xs : Nat → Int32) (B18 : mK) : mK := i_ald 1 (i_ald 0 (i_ild 3 (i_push (.int 1) (i_ib (fun x y => x + y) (i_sld Ls xs (i_ald 0 (i_ild 3 (i_push (.int 2) (i_ib (fun x y => x + y) (i_sld Ls xs (i_callV 4 2 FX4_band (i_ald 2 (i_ald 0 (i_ild 3 (i_push (.int 1) (i_ib (fun x y => x + y) (i_sld Ls xs (i_ald 0 (i_ild 3 (i_push (.int 2) (i_ib (fun x y => x + y) (i_sld Ls xs (i_callV 5 2 FX5_band (i_iceq ((jL_law_862 Ls xs B18)) (i_push (.int 0) (i_ret1))))))))))))))))))))))))))
set_option maxRecDepth 20000 in
theorem JL_law_287 {X : mC} {b Ls : Nat} {xs : Nat → Int32} (C : Cx X room_1 cL_law 4 RL ret) (hX : Ex X) (hL : Lx X b Ls xs) (B18 : mK) (hB18 : Den X room_1 4 18 B18) : Den X room_1 4 287 (jL_law_287 Ls xs B18) := by
  unfold jL_law_287
  refine Dn_ald_n (i := 1) (q := 288) C dL_law_287 rfl rfl ?_
  refine Dn_ald_n (i := 0) (q := 289) C dL_law_288 rfl rfl ?_
  refine Dn_ild_n (i := 3) (q := 290) C dL_law_289 rfl rfl ?_
  refine Dn_iconst (v := 1) (q := 291) C dL_law_290 (by decide) rfl ?_
  refine Dn_iadd (q := 292) C dL_law_291 rfl ?_
  refine Dn_sld (q := 293) C hL dL_law_292 rfl ?_
  refine Dn_ald_n (i := 0) (q := 294) C dL_law_293 rfl rfl ?_
  refine Dn_ild_n (i := 3) (q := 295) C dL_law_294 rfl rfl ?_
  refine Dn_iconst (v := 2) (q := 296) C dL_law_295 (by decide) rfl ?_
  refine Dn_iadd (q := 297) C dL_law_296 rfl ?_
  refine Dn_sld (q := 298) C hL dL_law_297 rfl ?_
  refine Dn_callV (ci := 4) (T := TX4) (N := 17) (q := 301) C rfl (kX4_band _ _ _) q_511 q_508 q_509 q_510 q_44 ⟨rfl, rfl⟩ (by decide +kernel) ⟨by decide, by decide⟩ dL_law_298 rfl ?_
  refine Dn_ald_n (i := 2) (q := 302) C dL_law_301 rfl rfl ?_
  refine Dn_ald_n (i := 0) (q := 303) C dL_law_302 rfl rfl ?_
  refine Dn_ild_n (i := 3) (q := 304) C dL_law_303 rfl rfl ?_
  refine Dn_iconst (v := 1) (q := 305) C dL_law_304 (by decide) rfl ?_
  refine Dn_iadd (q := 306) C dL_law_305 rfl ?_
  refine Dn_sld (q := 307) C hL dL_law_306 rfl ?_
  refine Dn_ald_n (i := 0) (q := 308) C dL_law_307 rfl rfl ?_
  refine Dn_ild_n (i := 3) (q := 309) C dL_law_308 rfl rfl ?_
  refine Dn_iconst (v := 2) (q := 310) C dL_law_309 (by decide) rfl ?_
  refine Dn_iadd (q := 311) C dL_law_310 rfl ?_
  refine Dn_sld (q := 312) C hL dL_law_311 rfl ?_
  refine Dn_callV (ci := 5) (T := TX5) (N := 25) (q := 315) C rfl (kX5_band _ _ _) q_899 q_896 q_897 q_898 q_50 ⟨rfl, rfl⟩ (by decide +kernel) ⟨by decide, by decide⟩ dL_law_312 rfl ?_
  refine Dn_iceq (t := 862) (q := 318) C dL_law_315 (by decide) rfl ?_ ?_
  · exact JL_law_862 C hX hL B18 hB18
  · refine Dn_iconst (v := 0) (q := 319) C dL_law_318 (by decide) rfl ?_
    exact Dn_ret1 C hX dL_law_319
def jL_law_254 (Ls : Nat) (xs : Nat → Int32) (B18 : mK) : mK := i_ald 1 (i_ald 0 (i_ild 3 (i_push (.int 1) (i_ib (fun x y => x + y) (i_sld Ls xs (i_ald 0 (i_ild 3 (i_push (.int 2) (i_ib (fun x y => x + y) (i_sld Ls xs (i_callV 4 2 FX4_place (i_ald 2 (i_ald 0 (i_ild 3 (i_push (.int 1) (i_ib (fun x y => x + y) (i_sld Ls xs (i_ald 0 (i_ild 3 (i_push (.int 2) (i_ib (fun x y => x + y) (i_sld Ls xs (i_callV 5 2 FX5_place (i_iceq ((jL_law_862 Ls xs B18)) (i_push (.int 0) (i_ret1))))))))))))))))))))))))))
set_option maxRecDepth 20000 in
theorem JL_law_254 {X : mC} {b Ls : Nat} {xs : Nat → Int32} (C : Cx X room_1 cL_law 4 RL ret) (hX : Ex X) (hL : Lx X b Ls xs) (B18 : mK) (hB18 : Den X room_1 4 18 B18) : Den X room_1 4 254 (jL_law_254 Ls xs B18) := by
  unfold jL_law_254
  refine Dn_ald_n (i := 1) (q := 255) C dL_law_254 rfl rfl ?_
  refine Dn_ald_n (i := 0) (q := 256) C dL_law_255 rfl rfl ?_
  refine Dn_ild_n (i := 3) (q := 257) C dL_law_256 rfl rfl ?_
  refine Dn_iconst (v := 1) (q := 258) C dL_law_257 (by decide) rfl ?_
  refine Dn_iadd (q := 259) C dL_law_258 rfl ?_
  refine Dn_sld (q := 260) C hL dL_law_259 rfl ?_
  refine Dn_ald_n (i := 0) (q := 261) C dL_law_260 rfl rfl ?_
  refine Dn_ild_n (i := 3) (q := 262) C dL_law_261 rfl rfl ?_
  refine Dn_iconst (v := 2) (q := 263) C dL_law_262 (by decide) rfl ?_
  refine Dn_iadd (q := 264) C dL_law_263 rfl ?_
  refine Dn_sld (q := 265) C hL dL_law_264 rfl ?_
  refine Dn_callV (ci := 4) (T := TX4) (N := 17) (q := 268) C rfl (kX4_place _ _ _) q_490 q_487 q_488 q_489 q_44 ⟨rfl, rfl⟩ (by decide +kernel) ⟨by decide, by decide⟩ dL_law_265 rfl ?_
  refine Dn_ald_n (i := 2) (q := 269) C dL_law_268 rfl rfl ?_
  refine Dn_ald_n (i := 0) (q := 270) C dL_law_269 rfl rfl ?_
  refine Dn_ild_n (i := 3) (q := 271) C dL_law_270 rfl rfl ?_
  refine Dn_iconst (v := 1) (q := 272) C dL_law_271 (by decide) rfl ?_
  refine Dn_iadd (q := 273) C dL_law_272 rfl ?_
  refine Dn_sld (q := 274) C hL dL_law_273 rfl ?_
  refine Dn_ald_n (i := 0) (q := 275) C dL_law_274 rfl rfl ?_
  refine Dn_ild_n (i := 3) (q := 276) C dL_law_275 rfl rfl ?_
  refine Dn_iconst (v := 2) (q := 277) C dL_law_276 (by decide) rfl ?_
  refine Dn_iadd (q := 278) C dL_law_277 rfl ?_
  refine Dn_sld (q := 279) C hL dL_law_278 rfl ?_
  refine Dn_callV (ci := 5) (T := TX5) (N := 25) (q := 282) C rfl (kX5_place _ _ _) q_883 q_880 q_881 q_882 q_50 ⟨rfl, rfl⟩ (by decide +kernel) ⟨by decide, by decide⟩ dL_law_279 rfl ?_
  refine Dn_iceq (t := 862) (q := 285) C dL_law_282 (by decide) rfl ?_ ?_
  · exact JL_law_862 C hX hL B18 hB18
  · refine Dn_iconst (v := 0) (q := 286) C dL_law_285 (by decide) rfl ?_
    exact Dn_ret1 C hX dL_law_286
def jL_law_241 (Ls : Nat) (xs : Nat → Int32) (B18 : mK) : mK := i_ald 1 (i_callV 4 0 FX4_park (i_ald 2 (i_callV 5 0 FX5_park (i_iceq ((jL_law_862 Ls xs B18)) (i_push (.int 0) (i_ret1))))))
set_option maxRecDepth 20000 in
theorem JL_law_241 {X : mC} {b Ls : Nat} {xs : Nat → Int32} (C : Cx X room_1 cL_law 4 RL ret) (hX : Ex X) (hL : Lx X b Ls xs) (B18 : mK) (hB18 : Den X room_1 4 18 B18) : Den X room_1 4 241 (jL_law_241 Ls xs B18) := by
  unfold jL_law_241
  refine Dn_ald_n (i := 1) (q := 242) C dL_law_241 rfl rfl ?_
  refine Dn_callV (ci := 4) (T := TX4) (N := 17) (q := 245) C rfl (kX4_park _ _ _) q_485 q_482 q_483 q_484 q_44 ⟨rfl, rfl⟩ (by decide +kernel) ⟨by decide, by decide⟩ dL_law_242 rfl ?_
  refine Dn_ald_n (i := 2) (q := 246) C dL_law_245 rfl rfl ?_
  refine Dn_callV (ci := 5) (T := TX5) (N := 25) (q := 249) C rfl (kX5_park _ _ _) q_866 q_863 q_864 q_865 q_50 ⟨rfl, rfl⟩ (by decide +kernel) ⟨by decide, by decide⟩ dL_law_246 rfl ?_
  refine Dn_iceq (t := 862) (q := 252) C dL_law_249 (by decide) rfl ?_ ?_
  · exact JL_law_862 C hX hL B18 hB18
  · refine Dn_iconst (v := 0) (q := 253) C dL_law_252 (by decide) rfl ?_
    exact Dn_ret1 C hX dL_law_253
def jL_law_228 (Ls : Nat) (xs : Nat → Int32) (B18 : mK) : mK := i_ald 1 (i_callV 4 0 FX4_fault (i_ald 2 (i_callV 5 0 FX5_fault (i_iceq ((jL_law_862 Ls xs B18)) (i_push (.int 0) (i_ret1))))))
set_option maxRecDepth 20000 in
theorem JL_law_228 {X : mC} {b Ls : Nat} {xs : Nat → Int32} (C : Cx X room_1 cL_law 4 RL ret) (hX : Ex X) (hL : Lx X b Ls xs) (B18 : mK) (hB18 : Den X room_1 4 18 B18) : Den X room_1 4 228 (jL_law_228 Ls xs B18) := by
  unfold jL_law_228
  refine Dn_ald_n (i := 1) (q := 229) C dL_law_228 rfl rfl ?_
  refine Dn_callV (ci := 4) (T := TX4) (N := 17) (q := 232) C rfl (kX4_fault _ _ _) q_321 q_318 q_319 q_320 q_44 ⟨rfl, rfl⟩ (by decide +kernel) ⟨by decide, by decide⟩ dL_law_229 rfl ?_
  refine Dn_ald_n (i := 2) (q := 233) C dL_law_232 rfl rfl ?_
  refine Dn_callV (ci := 5) (T := TX5) (N := 25) (q := 236) C rfl (kX5_fault _ _ _) q_803 q_800 q_801 q_802 q_50 ⟨rfl, rfl⟩ (by decide +kernel) ⟨by decide, by decide⟩ dL_law_233 rfl ?_
  refine Dn_iceq (t := 862) (q := 239) C dL_law_236 (by decide) rfl ?_ ?_
  · exact JL_law_862 C hX hL B18 hB18
  · refine Dn_iconst (v := 0) (q := 240) C dL_law_239 (by decide) rfl ?_
    exact Dn_ret1 C hX dL_law_240
def jL_law_215 (Ls : Nat) (xs : Nat → Int32) (B18 : mK) : mK := i_ald 1 (i_callV 4 0 FX4_erase (i_ald 2 (i_callV 5 0 FX5_erase (i_iceq ((jL_law_862 Ls xs B18)) (i_push (.int 0) (i_ret1))))))
set_option maxRecDepth 20000 in
theorem JL_law_215 {X : mC} {b Ls : Nat} {xs : Nat → Int32} (C : Cx X room_1 cL_law 4 RL ret) (hX : Ex X) (hL : Lx X b Ls xs) (B18 : mK) (hB18 : Den X room_1 4 18 B18) : Den X room_1 4 215 (jL_law_215 Ls xs B18) := by
  unfold jL_law_215
  refine Dn_ald_n (i := 1) (q := 216) C dL_law_215 rfl rfl ?_
  refine Dn_callV (ci := 4) (T := TX4) (N := 17) (q := 219) C rfl (kX4_erase _ _ _) q_313 q_310 q_311 q_312 q_44 ⟨rfl, rfl⟩ (by decide +kernel) ⟨by decide, by decide⟩ dL_law_216 rfl ?_
  refine Dn_ald_n (i := 2) (q := 220) C dL_law_219 rfl rfl ?_
  refine Dn_callV (ci := 5) (T := TX5) (N := 25) (q := 223) C rfl (kX5_erase _ _ _) q_799 q_796 q_797 q_798 q_50 ⟨rfl, rfl⟩ (by decide +kernel) ⟨by decide, by decide⟩ dL_law_220 rfl ?_
  refine Dn_iceq (t := 862) (q := 226) C dL_law_223 (by decide) rfl ?_ ?_
  · exact JL_law_862 C hX hL B18 hB18
  · refine Dn_iconst (v := 0) (q := 227) C dL_law_226 (by decide) rfl ?_
    exact Dn_ret1 C hX dL_law_227
def jL_law_152 (Ls : Nat) (xs : Nat → Int32) (B18 : mK) : mK := i_ald 1 (i_ald 0 (i_ild 3 (i_push (.int 1) (i_ib (fun x y => x + y) (i_sld Ls xs (i_i2l (i_push (.int 32) (i_ls (fun x y => x <<< (y.toInt64 &&& 63)) (i_ald 0 (i_ild 3 (i_push (.int 2) (i_ib (fun x y => x + y) (i_sld Ls xs (i_i2l (i_push (.long 4294967295) (i_lb (fun x y => x &&& y) (i_lb (fun x y => x ||| y) (i_ald 0 (i_ild 3 (i_push (.int 3) (i_ib (fun x y => x + y) (i_sld Ls xs (i_callV 4 2 FX4_write (i_ald 2 (i_ald 0 (i_ild 3 (i_push (.int 1) (i_ib (fun x y => x + y) (i_sld Ls xs (i_i2l (i_push (.int 32) (i_ls (fun x y => x <<< (y.toInt64 &&& 63)) (i_ald 0 (i_ild 3 (i_push (.int 2) (i_ib (fun x y => x + y) (i_sld Ls xs (i_i2l (i_push (.long 4294967295) (i_lb (fun x y => x &&& y) (i_lb (fun x y => x ||| y) (i_ald 0 (i_ild 3 (i_push (.int 3) (i_ib (fun x y => x + y) (i_sld Ls xs (i_callV 5 2 FX5_write (i_iceq ((jL_law_862 Ls xs B18)) (i_push (.int 0) (i_ret1))))))))))))))))))))))))))))))))))))))))))))))))))
set_option maxRecDepth 20000 in
theorem JL_law_152 {X : mC} {b Ls : Nat} {xs : Nat → Int32} (C : Cx X room_1 cL_law 4 RL ret) (hX : Ex X) (hL : Lx X b Ls xs) (B18 : mK) (hB18 : Den X room_1 4 18 B18) : Den X room_1 4 152 (jL_law_152 Ls xs B18) := by
  unfold jL_law_152
  refine Dn_ald_n (i := 1) (q := 153) C dL_law_152 rfl rfl ?_
  refine Dn_ald_n (i := 0) (q := 154) C dL_law_153 rfl rfl ?_
  refine Dn_ild_n (i := 3) (q := 155) C dL_law_154 rfl rfl ?_
  refine Dn_iconst (v := 1) (q := 156) C dL_law_155 (by decide) rfl ?_
  refine Dn_iadd (q := 157) C dL_law_156 rfl ?_
  refine Dn_sld (q := 158) C hL dL_law_157 rfl ?_
  refine Dn_i2l (q := 159) C dL_law_158 rfl ?_
  refine Dn_bipush (v := 32) (q := 161) C dL_law_159 (by decide) rfl ?_
  refine Dn_lshl (q := 162) C dL_law_161 rfl ?_
  refine Dn_ald_n (i := 0) (q := 163) C dL_law_162 rfl rfl ?_
  refine Dn_ild_n (i := 3) (q := 164) C dL_law_163 rfl rfl ?_
  refine Dn_iconst (v := 2) (q := 165) C dL_law_164 (by decide) rfl ?_
  refine Dn_iadd (q := 166) C dL_law_165 rfl ?_
  refine Dn_sld (q := 167) C hL dL_law_166 rfl ?_
  refine Dn_i2l (q := 168) C dL_law_167 rfl ?_
  refine Dn_ldc2 (q := 171) C dL_law_168 q_1049 rfl ?_
  refine Dn_land (q := 172) C dL_law_171 rfl ?_
  refine Dn_lor (q := 173) C dL_law_172 rfl ?_
  refine Dn_ald_n (i := 0) (q := 174) C dL_law_173 rfl rfl ?_
  refine Dn_ild_n (i := 3) (q := 175) C dL_law_174 rfl rfl ?_
  refine Dn_iconst (v := 3) (q := 176) C dL_law_175 (by decide) rfl ?_
  refine Dn_iadd (q := 177) C dL_law_176 rfl ?_
  refine Dn_sld (q := 178) C hL dL_law_177 rfl ?_
  refine Dn_callV (ci := 4) (T := TX4) (N := 17) (q := 181) C rfl (kX4_write _ _ _) q_304 q_301 q_302 q_303 q_44 ⟨rfl, rfl⟩ (by decide +kernel) ⟨by decide, by decide⟩ dL_law_178 rfl ?_
  refine Dn_ald_n (i := 2) (q := 182) C dL_law_181 rfl rfl ?_
  refine Dn_ald_n (i := 0) (q := 183) C dL_law_182 rfl rfl ?_
  refine Dn_ild_n (i := 3) (q := 184) C dL_law_183 rfl rfl ?_
  refine Dn_iconst (v := 1) (q := 185) C dL_law_184 (by decide) rfl ?_
  refine Dn_iadd (q := 186) C dL_law_185 rfl ?_
  refine Dn_sld (q := 187) C hL dL_law_186 rfl ?_
  refine Dn_i2l (q := 188) C dL_law_187 rfl ?_
  refine Dn_bipush (v := 32) (q := 190) C dL_law_188 (by decide) rfl ?_
  refine Dn_lshl (q := 191) C dL_law_190 rfl ?_
  refine Dn_ald_n (i := 0) (q := 192) C dL_law_191 rfl rfl ?_
  refine Dn_ild_n (i := 3) (q := 193) C dL_law_192 rfl rfl ?_
  refine Dn_iconst (v := 2) (q := 194) C dL_law_193 (by decide) rfl ?_
  refine Dn_iadd (q := 195) C dL_law_194 rfl ?_
  refine Dn_sld (q := 196) C hL dL_law_195 rfl ?_
  refine Dn_i2l (q := 197) C dL_law_196 rfl ?_
  refine Dn_ldc2 (q := 200) C dL_law_197 q_1049 rfl ?_
  refine Dn_land (q := 201) C dL_law_200 rfl ?_
  refine Dn_lor (q := 202) C dL_law_201 rfl ?_
  refine Dn_ald_n (i := 0) (q := 203) C dL_law_202 rfl rfl ?_
  refine Dn_ild_n (i := 3) (q := 204) C dL_law_203 rfl rfl ?_
  refine Dn_iconst (v := 3) (q := 205) C dL_law_204 (by decide) rfl ?_
  refine Dn_iadd (q := 206) C dL_law_205 rfl ?_
  refine Dn_sld (q := 207) C hL dL_law_206 rfl ?_
  refine Dn_callV (ci := 5) (T := TX5) (N := 25) (q := 210) C rfl (kX5_write _ _ _) q_790 q_787 q_788 q_789 q_50 ⟨rfl, rfl⟩ (by decide +kernel) ⟨by decide, by decide⟩ dL_law_207 rfl ?_
  refine Dn_iceq (t := 862) (q := 213) C dL_law_210 (by decide) rfl ?_ ?_
  · exact JL_law_862 C hX hL B18 hB18
  · refine Dn_iconst (v := 0) (q := 214) C dL_law_213 (by decide) rfl ?_
    exact Dn_ret1 C hX dL_law_214
def jL_law_18 (Ls : Nat) (xs : Nat → Int32) : mK := i_loop (fun B18 => i_ild 3 (i_ald 0 (i_slen Ls (i_push (.int 5) (i_ib (fun x y => x - y) (i_icgt (i_push (.int 1) (i_ret1)) (i_ald 0 (i_ild 3 (i_sld Ls xs (i_push (.int 31) (i_ib (fun x y => x &&& y) (i_sw 0 25 [(jL_law_152 Ls xs B18), (jL_law_215 Ls xs B18), (jL_law_228 Ls xs B18), (jL_law_241 Ls xs B18), (jL_law_254 Ls xs B18), (jL_law_287 Ls xs B18), (jL_law_320 Ls xs B18), (jL_law_353 Ls xs B18), (jL_law_386 Ls xs B18), (jL_law_429 Ls xs B18), (jL_law_462 Ls xs B18), (jL_law_485 Ls xs B18), (jL_law_508 Ls xs B18), (jL_law_531 Ls xs B18), (jL_law_554 Ls xs B18), (jL_law_577 Ls xs B18), (jL_law_601 Ls xs B18), (jL_law_624 Ls xs B18), (jL_law_648 Ls xs B18), (jL_law_661 Ls xs B18), (jL_law_684 Ls xs B18), (jL_law_707 Ls xs B18), (jL_law_760 Ls xs B18), (jL_law_803 Ls xs B18), (jL_law_816 Ls xs B18), (jL_law_839 Ls xs B18)] ((jL_law_862 Ls xs B18)))))))))))))) 1000
set_option maxRecDepth 20000 in
theorem JL_law_18 {X : mC} {b Ls : Nat} {xs : Nat → Int32} (C : Cx X room_1 cL_law 4 RL ret) (hX : Ex X) (hL : Lx X b Ls xs) : Den X room_1 4 18 (jL_law_18 Ls xs) := by
  unfold jL_law_18
  refine Dn_loop (fun B18 hB18 => ?_) 1000
  refine Dn_ild_n (i := 3) (q := 19) C dL_law_18 rfl rfl ?_
  refine Dn_ald_n (i := 0) (q := 20) C dL_law_19 rfl rfl ?_
  refine Dn_slen (q := 21) C hL dL_law_20 rfl ?_
  refine Dn_iconst (v := 5) (q := 22) C dL_law_21 (by decide) rfl ?_
  refine Dn_isub (q := 23) C dL_law_22 rfl ?_
  refine Dn_icgt (t := 868) (q := 26) C dL_law_23 (by decide) rfl ?_ ?_
  · refine Dn_iconst (v := 1) (q := 869) C dL_law_868 (by decide) rfl ?_
    exact Dn_ret1 C hX dL_law_869
  · refine Dn_ald_n (i := 0) (q := 27) C dL_law_26 rfl rfl ?_
    refine Dn_ild_n (i := 3) (q := 28) C dL_law_27 rfl rfl ?_
    refine Dn_sld (q := 29) C hL dL_law_28 rfl ?_
    refine Dn_bipush (v := 31) (q := 31) C dL_law_29 (by decide) rfl ?_
    refine Dn_iand (q := 32) C dL_law_31 rfl ?_
    refine Dn_sw (td := 862) (ts := [152, 215, 228, 241, 254, 287, 320, 353, 386, 429, 462, 485, 508, 531, 554, 577, 601, 624, 648, 661, 684, 707, 760, 803, 816, 839]) C dL_law_32 (by decide) (by decide +kernel) rfl ?_ ?_
    · exact JL_law_862 C hX hL B18 hB18
    · show DenL _ _ _ _ _
      refine DenL_cons ?_ ?_
      · exact JL_law_152 C hX hL B18 hB18
      refine DenL_cons ?_ ?_
      · exact JL_law_215 C hX hL B18 hB18
      refine DenL_cons ?_ ?_
      · exact JL_law_228 C hX hL B18 hB18
      refine DenL_cons ?_ ?_
      · exact JL_law_241 C hX hL B18 hB18
      refine DenL_cons ?_ ?_
      · exact JL_law_254 C hX hL B18 hB18
      refine DenL_cons ?_ ?_
      · exact JL_law_287 C hX hL B18 hB18
      refine DenL_cons ?_ ?_
      · exact JL_law_320 C hX hL B18 hB18
      refine DenL_cons ?_ ?_
      · exact JL_law_353 C hX hL B18 hB18
      refine DenL_cons ?_ ?_
      · exact JL_law_386 C hX hL B18 hB18
      refine DenL_cons ?_ ?_
      · exact JL_law_429 C hX hL B18 hB18
      refine DenL_cons ?_ ?_
      · exact JL_law_462 C hX hL B18 hB18
      refine DenL_cons ?_ ?_
      · exact JL_law_485 C hX hL B18 hB18
      refine DenL_cons ?_ ?_
      · exact JL_law_508 C hX hL B18 hB18
      refine DenL_cons ?_ ?_
      · exact JL_law_531 C hX hL B18 hB18
      refine DenL_cons ?_ ?_
      · exact JL_law_554 C hX hL B18 hB18
      refine DenL_cons ?_ ?_
      · exact JL_law_577 C hX hL B18 hB18
      refine DenL_cons ?_ ?_
      · exact JL_law_601 C hX hL B18 hB18
      refine DenL_cons ?_ ?_
      · exact JL_law_624 C hX hL B18 hB18
      refine DenL_cons ?_ ?_
      · exact JL_law_648 C hX hL B18 hB18
      refine DenL_cons ?_ ?_
      · exact JL_law_661 C hX hL B18 hB18
      refine DenL_cons ?_ ?_
      · exact JL_law_684 C hX hL B18 hB18
      refine DenL_cons ?_ ?_
      · exact JL_law_707 C hX hL B18 hB18
      refine DenL_cons ?_ ?_
      · exact JL_law_760 C hX hL B18 hB18
      refine DenL_cons ?_ ?_
      · exact JL_law_803 C hX hL B18 hB18
      refine DenL_cons ?_ ?_
      · exact JL_law_816 C hX hL B18 hB18
      refine DenL_cons ?_ ?_
      · exact JL_law_839 C hX hL B18 hB18
      exact DenL_nil
def jL_16 (Ls : Nat) (xs : Nat → Int32) : mK := i_push (.int 0) (i_ist 3 (jL_law_18 Ls xs))
def jL_0 (Ls : Nat) (xs : Nat → Int32) (n0 : Nat) : mK := i_new n0 room_1 4 17 [.null, .null, .null, .null, .null, .null, .int 0, .int 0, .int 0, .null, .null, .null, .null, .null, .null, .int 0, .null] (i_dup (i_callC n0 room_1 FX4_init 23 892 (i_ast 1 (i_new n0 room_1 5 25 [.null, .null, .null, .int 0, .null, .int 0, .int 0, .int 0, .int 0, .int 0, .int 0, .long 0, .long 0, .null, .int 0, .int 0, .int 0, .int 0, .int 0, .int 0, .long 0, .null, .int 0, .null, .int 0] (i_dup (i_callC n0 room_1 FX5_init 7 343 (i_ast 2 ((jL_16 Ls xs)))))))))
set_option maxRecDepth 20000 in
theorem JL_0 {X : mC} {b Ls : Nat} {xs : Nat → Int32} (C0 : Cx X room_1 cL_law 4 RL ret) (hX0 : Ex X) (hL0 : Lx X b Ls xs) (hAx : Ax X) : DG X room_1 4 0 (jL_0 Ls xs X.n) := by
  unfold jL_0 jL_16
  intro ad n g
  have C := C0.g g
  refine DnG_new (ci := 4) (N := 17) (T := TX4) (Cn := RX4) (fs := [.null, .null, .null, .null, .null, .null, .int 0, .int 0, .int 0, .null, .null, .null, .null, .null, .null, .int 0, .null]) (q := 3) C0 hAx g rfl iX4 tyX4 tyX4_ok q_57 q_58 q_44 dfX4 (fun _ => rfl) (fun _ => rfl) dL_law_0 rfl ?_
  intro ad n g
  have C := C0.g g
  refine Dn_dup (q := 4) C dL_law_3 rfl ?_
  refine DnG_callC (q := 7) (dc := 23) (ds := 892) C0 hAx g (kX4_init _ _ _) q_61 (Or.inl q_59) q_60 q_44 rfl ⟨rfl, rfl⟩ (by decide +kernel) ⟨by decide, by decide⟩ dL_law_4 rfl ?_
  intro ad n g
  have C := C0.g g
  refine Dn_ast_n (i := 1) (q := 8) C dL_law_7 rfl (by decide) rfl ?_
  refine DnG_new (ci := 5) (N := 25) (T := TX5) (Cn := RX5) (fs := [.null, .null, .null, .int 0, .null, .int 0, .int 0, .int 0, .int 0, .int 0, .int 0, .long 0, .long 0, .null, .int 0, .int 0, .int 0, .int 0, .int 0, .int 0, .long 0, .null, .int 0, .null, .int 0]) (q := 11) C0 hAx g rfl iX5 tyX5 tyX5_ok q_704 q_705 q_50 dfX5 (fun _ => rfl) (fun _ => rfl) dL_law_8 rfl ?_
  intro ad n g
  have C := C0.g g
  refine Dn_dup (q := 12) C dL_law_11 rfl ?_
  refine DnG_callC (q := 15) (dc := 7) (ds := 343) C0 hAx g (kX5_init _ _ _) q_708 (Or.inl q_706) q_707 q_50 rfl ⟨rfl, rfl⟩ (by decide +kernel) ⟨by decide, by decide⟩ dL_law_12 rfl ?_
  intro ad n g
  have C := C0.g g
  refine Dn_ast_n (i := 2) (q := 16) C dL_law_15 rfl (by decide) rfl ?_
  refine Dn_iconst (v := 0) (q := 17) C dL_law_16 (by decide) rfl ?_
  refine Dn_ist_n (i := 3) (q := 18) C dL_law_17 rfl (by decide) rfl ?_
  exact JL_law_18 C hX0.g (hL0.g g)
