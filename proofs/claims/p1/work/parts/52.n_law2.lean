theorem dL_law_639 : decode cL_law 639 = .ok (.aload_n 1, 1) := by decide +kernel
theorem dL_law_640 : decode cL_law 640 = .ok (.invokevirtual 78, 3) := by decide +kernel
theorem lk_RL_78 : Cond.methodLink RL 78 yX11_stopped ∈ gW := gW_t 945 (by decide +kernel) rfl
theorem mI_X11_stopped : Cond.instanceMethod yX11_stopped ∈ gW := gW_t 946 (by decide +kernel) rfl
theorem mS_X11_stopped : Cond.selects RX11 yX11_stopped yX11_stopped ∈ gW := gW_t 947 (by decide +kernel) rfl
theorem mC_X11_stopped : Cond.code yX11_stopped cX11_stopped 1 (some .int) ∈ gW := gW_t 948 (by decide +kernel) rfl
theorem ok_X11_stopped : okD yX11_stopped 0 := ⟨by decide +kernel, by decide +kernel, by decide +kernel⟩
theorem dL_law_643 : decode cL_law 643 = .ok (.aload_n 2, 1) := by decide +kernel
theorem dL_law_644 : decode cL_law 644 = .ok (.invokevirtual 81, 3) := by decide +kernel
theorem lk_RL_81 : Cond.methodLink RL 81 yX12_stopped ∈ gW := gW_t 1988 (by decide +kernel) rfl
theorem mI_X12_stopped : Cond.instanceMethod yX12_stopped ∈ gW := gW_t 1989 (by decide +kernel) rfl
theorem mS_X12_stopped : Cond.selects RX12 yX12_stopped yX12_stopped ∈ gW := gW_t 1990 (by decide +kernel) rfl
theorem mC_X12_stopped : Cond.code yX12_stopped cX12_stopped 1 (some .int) ∈ gW := gW_t 1991 (by decide +kernel) rfl
theorem ok_X12_stopped : okD yX12_stopped 0 := ⟨by decide +kernel, by decide +kernel, by decide +kernel⟩
theorem dL_law_647 : decode cL_law 647 = .ok (.if_icmp .eq 813, 3) := by decide +kernel
theorem dL_law_652 : decode cL_law 652 = .ok (.aload_n 1, 1) := by decide +kernel
theorem dL_law_653 : decode cL_law 653 = .ok (.aload_n 0, 1) := by decide +kernel
theorem dL_law_654 : decode cL_law 654 = .ok (.iload_n 3, 1) := by decide +kernel
theorem dL_law_655 : decode cL_law 655 = .ok (.iconst 1, 1) := by decide +kernel
theorem dL_law_656 : decode cL_law 656 = .ok (.iadd, 1) := by decide +kernel
theorem dL_law_657 : decode cL_law 657 = .ok (.iaload, 1) := by decide +kernel
theorem dL_law_658 : decode cL_law 658 = .ok (.invokevirtual 82, 3) := by decide +kernel
theorem lk_RL_82 : Cond.methodLink RL 82 yX11_force ∈ gW := gW_t 949 (by decide +kernel) rfl
theorem mI_X11_force : Cond.instanceMethod yX11_force ∈ gW := gW_t 950 (by decide +kernel) rfl
theorem mS_X11_force : Cond.selects RX11 yX11_force yX11_force ∈ gW := gW_t 951 (by decide +kernel) rfl
theorem mC_X11_force : Cond.code yX11_force cX11_force 4 (some .int) ∈ gW := gW_t 952 (by decide +kernel) rfl
theorem ok_X11_force : okD yX11_force 1 := ⟨by decide +kernel, by decide +kernel, by decide +kernel⟩
theorem dL_law_661 : decode cL_law 661 = .ok (.aload_n 2, 1) := by decide +kernel
theorem dL_law_662 : decode cL_law 662 = .ok (.aload_n 0, 1) := by decide +kernel
theorem dL_law_663 : decode cL_law 663 = .ok (.iload_n 3, 1) := by decide +kernel
theorem dL_law_664 : decode cL_law 664 = .ok (.iconst 1, 1) := by decide +kernel
theorem dL_law_665 : decode cL_law 665 = .ok (.iadd, 1) := by decide +kernel
theorem dL_law_666 : decode cL_law 666 = .ok (.iaload, 1) := by decide +kernel
theorem dL_law_667 : decode cL_law 667 = .ok (.invokevirtual 85, 3) := by decide +kernel
theorem lk_RL_85 : Cond.methodLink RL 85 yX12_force ∈ gW := gW_t 1753 (by decide +kernel) rfl
theorem mI_X12_force : Cond.instanceMethod yX12_force ∈ gW := gW_t 1754 (by decide +kernel) rfl
theorem mS_X12_force : Cond.selects RX12 yX12_force yX12_force ∈ gW := gW_t 1755 (by decide +kernel) rfl
theorem mC_X12_force : Cond.code yX12_force cX12_force 2 (some .int) ∈ gW := gW_t 1756 (by decide +kernel) rfl
theorem ok_X12_force : okD yX12_force 1 := ⟨by decide +kernel, by decide +kernel, by decide +kernel⟩
theorem dL_law_670 : decode cL_law 670 = .ok (.if_icmp .eq 790, 3) := by decide +kernel
theorem dL_law_675 : decode cL_law 675 = .ok (.aload_n 1, 1) := by decide +kernel
theorem dL_law_676 : decode cL_law 676 = .ok (.aload_n 0, 1) := by decide +kernel
theorem dL_law_677 : decode cL_law 677 = .ok (.iload_n 3, 1) := by decide +kernel
theorem dL_law_678 : decode cL_law 678 = .ok (.iconst 1, 1) := by decide +kernel
theorem dL_law_679 : decode cL_law 679 = .ok (.iadd, 1) := by decide +kernel
theorem dL_law_680 : decode cL_law 680 = .ok (.iaload, 1) := by decide +kernel
theorem dL_law_681 : decode cL_law 681 = .ok (.aload_n 0, 1) := by decide +kernel
theorem dL_law_682 : decode cL_law 682 = .ok (.iload_n 3, 1) := by decide +kernel
theorem dL_law_683 : decode cL_law 683 = .ok (.iconst 2, 1) := by decide +kernel
theorem dL_law_684 : decode cL_law 684 = .ok (.iadd, 1) := by decide +kernel
theorem dL_law_685 : decode cL_law 685 = .ok (.iaload, 1) := by decide +kernel
theorem dL_law_686 : decode cL_law 686 = .ok (.aload_n 0, 1) := by decide +kernel
theorem dL_law_687 : decode cL_law 687 = .ok (.iload_n 3, 1) := by decide +kernel
theorem dL_law_688 : decode cL_law 688 = .ok (.iconst 3, 1) := by decide +kernel
theorem dL_law_689 : decode cL_law 689 = .ok (.iadd, 1) := by decide +kernel
theorem dL_law_690 : decode cL_law 690 = .ok (.iaload, 1) := by decide +kernel
theorem dL_law_691 : decode cL_law 691 = .ok (.invokevirtual 86, 3) := by decide +kernel
theorem lk_RL_86 : Cond.methodLink RL 86 yX11_asks ∈ gW := gW_t 957 (by decide +kernel) rfl
theorem mI_X11_asks : Cond.instanceMethod yX11_asks ∈ gW := gW_t 958 (by decide +kernel) rfl
theorem mS_X11_asks : Cond.selects RX11 yX11_asks yX11_asks ∈ gW := gW_t 959 (by decide +kernel) rfl
theorem mC_X11_asks : Cond.code yX11_asks cX11_asks 5 (some .int) ∈ gW := gW_t 960 (by decide +kernel) rfl
theorem ok_X11_asks : okD yX11_asks 3 := ⟨by decide +kernel, by decide +kernel, by decide +kernel⟩
theorem dL_law_694 : decode cL_law 694 = .ok (.aload_n 2, 1) := by decide +kernel
theorem dL_law_695 : decode cL_law 695 = .ok (.aload_n 0, 1) := by decide +kernel
theorem dL_law_696 : decode cL_law 696 = .ok (.iload_n 3, 1) := by decide +kernel
theorem dL_law_697 : decode cL_law 697 = .ok (.iconst 1, 1) := by decide +kernel
theorem dL_law_698 : decode cL_law 698 = .ok (.iadd, 1) := by decide +kernel
theorem dL_law_699 : decode cL_law 699 = .ok (.iaload, 1) := by decide +kernel
theorem dL_law_700 : decode cL_law 700 = .ok (.aload_n 0, 1) := by decide +kernel
theorem dL_law_701 : decode cL_law 701 = .ok (.iload_n 3, 1) := by decide +kernel
theorem dL_law_702 : decode cL_law 702 = .ok (.iconst 2, 1) := by decide +kernel
theorem dL_law_703 : decode cL_law 703 = .ok (.iadd, 1) := by decide +kernel
theorem dL_law_704 : decode cL_law 704 = .ok (.iaload, 1) := by decide +kernel
theorem dL_law_705 : decode cL_law 705 = .ok (.aload_n 0, 1) := by decide +kernel
theorem dL_law_706 : decode cL_law 706 = .ok (.iload_n 3, 1) := by decide +kernel
theorem dL_law_707 : decode cL_law 707 = .ok (.iconst 3, 1) := by decide +kernel
theorem dL_law_708 : decode cL_law 708 = .ok (.iadd, 1) := by decide +kernel
theorem dL_law_709 : decode cL_law 709 = .ok (.iaload, 1) := by decide +kernel
theorem dL_law_710 : decode cL_law 710 = .ok (.invokevirtual 89, 3) := by decide +kernel
theorem lk_RL_89 : Cond.methodLink RL 89 yX12_asks ∈ gW := gW_t 1761 (by decide +kernel) rfl
theorem mI_X12_asks : Cond.instanceMethod yX12_asks ∈ gW := gW_t 1762 (by decide +kernel) rfl
theorem mS_X12_asks : Cond.selects RX12 yX12_asks yX12_asks ∈ gW := gW_t 1763 (by decide +kernel) rfl
theorem mC_X12_asks : Cond.code yX12_asks cX12_asks 4 (some .int) ∈ gW := gW_t 1764 (by decide +kernel) rfl
theorem ok_X12_asks : okD yX12_asks 3 := ⟨by decide +kernel, by decide +kernel, by decide +kernel⟩
theorem dL_law_713 : decode cL_law 713 = .ok (.if_icmp .eq 747, 3) := by decide +kernel
theorem dL_law_718 : decode cL_law 718 = .ok (.aload_n 1, 1) := by decide +kernel
theorem dL_law_719 : decode cL_law 719 = .ok (.aload_n 0, 1) := by decide +kernel
theorem dL_law_720 : decode cL_law 720 = .ok (.iload_n 3, 1) := by decide +kernel
theorem dL_law_721 : decode cL_law 721 = .ok (.iconst 1, 1) := by decide +kernel
theorem dL_law_722 : decode cL_law 722 = .ok (.iadd, 1) := by decide +kernel
theorem dL_law_723 : decode cL_law 723 = .ok (.iaload, 1) := by decide +kernel
theorem dL_law_724 : decode cL_law 724 = .ok (.aload_n 0, 1) := by decide +kernel
theorem dL_law_725 : decode cL_law 725 = .ok (.iload_n 3, 1) := by decide +kernel
theorem dL_law_726 : decode cL_law 726 = .ok (.iconst 2, 1) := by decide +kernel
theorem dL_law_727 : decode cL_law 727 = .ok (.iadd, 1) := by decide +kernel
theorem dL_law_728 : decode cL_law 728 = .ok (.iaload, 1) := by decide +kernel
theorem dL_law_729 : decode cL_law 729 = .ok (.invokevirtual 90, 3) := by decide +kernel
theorem lk_RL_90 : Cond.methodLink RL 90 yX11_loud ∈ gW := gW_t 964 (by decide +kernel) rfl
theorem mI_X11_loud : Cond.instanceMethod yX11_loud ∈ gW := gW_t 965 (by decide +kernel) rfl
theorem mS_X11_loud : Cond.selects RX11 yX11_loud yX11_loud ∈ gW := gW_t 966 (by decide +kernel) rfl
theorem mC_X11_loud : Cond.code yX11_loud cX11_loud 5 (some .int) ∈ gW := gW_t 967 (by decide +kernel) rfl
theorem ok_X11_loud : okD yX11_loud 2 := ⟨by decide +kernel, by decide +kernel, by decide +kernel⟩
theorem dL_law_732 : decode cL_law 732 = .ok (.aload_n 2, 1) := by decide +kernel
theorem dL_law_733 : decode cL_law 733 = .ok (.aload_n 0, 1) := by decide +kernel
theorem dL_law_734 : decode cL_law 734 = .ok (.iload_n 3, 1) := by decide +kernel
theorem dL_law_735 : decode cL_law 735 = .ok (.iconst 1, 1) := by decide +kernel
theorem dL_law_736 : decode cL_law 736 = .ok (.iadd, 1) := by decide +kernel
theorem dL_law_737 : decode cL_law 737 = .ok (.iaload, 1) := by decide +kernel
theorem dL_law_738 : decode cL_law 738 = .ok (.aload_n 0, 1) := by decide +kernel
theorem dL_law_739 : decode cL_law 739 = .ok (.iload_n 3, 1) := by decide +kernel
theorem dL_law_740 : decode cL_law 740 = .ok (.iconst 2, 1) := by decide +kernel
theorem dL_law_741 : decode cL_law 741 = .ok (.iadd, 1) := by decide +kernel
theorem dL_law_742 : decode cL_law 742 = .ok (.iaload, 1) := by decide +kernel
theorem dL_law_743 : decode cL_law 743 = .ok (.invokevirtual 93, 3) := by decide +kernel
theorem lk_RL_93 : Cond.methodLink RL 93 yX12_loud ∈ gW := gW_t 1777 (by decide +kernel) rfl
theorem mI_X12_loud : Cond.instanceMethod yX12_loud ∈ gW := gW_t 1778 (by decide +kernel) rfl
theorem mS_X12_loud : Cond.selects RX12 yX12_loud yX12_loud ∈ gW := gW_t 1779 (by decide +kernel) rfl
theorem mC_X12_loud : Cond.code yX12_loud cX12_loud 3 (some .int) ∈ gW := gW_t 1780 (by decide +kernel) rfl
theorem ok_X12_loud : okD yX12_loud 2 := ⟨by decide +kernel, by decide +kernel, by decide +kernel⟩
theorem dL_law_746 : decode cL_law 746 = .ok (.if_icmp .eq 714, 3) := by decide +kernel
theorem dL_law_751 : decode cL_law 751 = .ok (.aload_n 1, 1) := by decide +kernel
theorem dL_law_752 : decode cL_law 752 = .ok (.aload_n 0, 1) := by decide +kernel
theorem dL_law_753 : decode cL_law 753 = .ok (.iload_n 3, 1) := by decide +kernel
theorem dL_law_754 : decode cL_law 754 = .ok (.iconst 1, 1) := by decide +kernel
theorem dL_law_755 : decode cL_law 755 = .ok (.iadd, 1) := by decide +kernel
theorem dL_law_756 : decode cL_law 756 = .ok (.iaload, 1) := by decide +kernel
theorem dL_law_757 : decode cL_law 757 = .ok (.invokevirtual 94, 3) := by decide +kernel
theorem lk_RL_94 : Cond.methodLink RL 94 yX11_din ∈ gW := gW_t 973 (by decide +kernel) rfl
theorem mI_X11_din : Cond.instanceMethod yX11_din ∈ gW := gW_t 974 (by decide +kernel) rfl
theorem mS_X11_din : Cond.selects RX11 yX11_din yX11_din ∈ gW := gW_t 975 (by decide +kernel) rfl
theorem mC_X11_din : Cond.code yX11_din cX11_din 2 (some .int) ∈ gW := gW_t 976 (by decide +kernel) rfl
theorem ok_X11_din : okD yX11_din 1 := ⟨by decide +kernel, by decide +kernel, by decide +kernel⟩
theorem dL_law_760 : decode cL_law 760 = .ok (.aload_n 2, 1) := by decide +kernel
theorem dL_law_761 : decode cL_law 761 = .ok (.aload_n 0, 1) := by decide +kernel
theorem dL_law_762 : decode cL_law 762 = .ok (.iload_n 3, 1) := by decide +kernel
theorem dL_law_763 : decode cL_law 763 = .ok (.iconst 1, 1) := by decide +kernel
theorem dL_law_764 : decode cL_law 764 = .ok (.iadd, 1) := by decide +kernel
theorem dL_law_765 : decode cL_law 765 = .ok (.iaload, 1) := by decide +kernel
theorem dL_law_766 : decode cL_law 766 = .ok (.invokevirtual 97, 3) := by decide +kernel
theorem lk_RL_97 : Cond.methodLink RL 97 yX12_din ∈ gW := gW_t 1786 (by decide +kernel) rfl
theorem mI_X12_din : Cond.instanceMethod yX12_din ∈ gW := gW_t 1787 (by decide +kernel) rfl
theorem mS_X12_din : Cond.selects RX12 yX12_din yX12_din ∈ gW := gW_t 1788 (by decide +kernel) rfl
theorem mC_X12_din : Cond.code yX12_din cX12_din 2 (some .int) ∈ gW := gW_t 1789 (by decide +kernel) rfl
theorem ok_X12_din : okD yX12_din 1 := ⟨by decide +kernel, by decide +kernel, by decide +kernel⟩
theorem dL_law_769 : decode cL_law 769 = .ok (.if_icmp .eq 691, 3) := by decide +kernel
theorem dL_law_774 : decode cL_law 774 = .ok (.aload_n 1, 1) := by decide +kernel
theorem dL_law_775 : decode cL_law 775 = .ok (.aload_n 0, 1) := by decide +kernel
theorem dL_law_776 : decode cL_law 776 = .ok (.iload_n 3, 1) := by decide +kernel
theorem dL_law_777 : decode cL_law 777 = .ok (.iconst 1, 1) := by decide +kernel
theorem dL_law_778 : decode cL_law 778 = .ok (.iadd, 1) := by decide +kernel
theorem dL_law_779 : decode cL_law 779 = .ok (.iaload, 1) := by decide +kernel
theorem dL_law_780 : decode cL_law 780 = .ok (.invokevirtual 98, 3) := by decide +kernel
theorem lk_RL_98 : Cond.methodLink RL 98 yX11_hears ∈ gW := gW_t 978 (by decide +kernel) rfl
theorem mI_X11_hears : Cond.instanceMethod yX11_hears ∈ gW := gW_t 979 (by decide +kernel) rfl
theorem mS_X11_hears : Cond.selects RX11 yX11_hears yX11_hears ∈ gW := gW_t 980 (by decide +kernel) rfl
theorem mC_X11_hears : Cond.code yX11_hears cX11_hears 3 (some .long) ∈ gW := gW_t 981 (by decide +kernel) rfl
theorem ok_X11_hears : okD yX11_hears 1 := ⟨by decide +kernel, by decide +kernel, by decide +kernel⟩
theorem dL_law_783 : decode cL_law 783 = .ok (.aload_n 2, 1) := by decide +kernel
theorem dL_law_784 : decode cL_law 784 = .ok (.aload_n 0, 1) := by decide +kernel
theorem dL_law_785 : decode cL_law 785 = .ok (.iload_n 3, 1) := by decide +kernel
theorem dL_law_786 : decode cL_law 786 = .ok (.iconst 1, 1) := by decide +kernel
theorem dL_law_787 : decode cL_law 787 = .ok (.iadd, 1) := by decide +kernel
theorem dL_law_788 : decode cL_law 788 = .ok (.iaload, 1) := by decide +kernel
theorem dL_law_789 : decode cL_law 789 = .ok (.invokevirtual 102, 3) := by decide +kernel
theorem lk_RL_102 : Cond.methodLink RL 102 yX12_hears ∈ gW := gW_t 1794 (by decide +kernel) rfl
theorem mI_X12_hears : Cond.instanceMethod yX12_hears ∈ gW := gW_t 1795 (by decide +kernel) rfl
theorem mS_X12_hears : Cond.selects RX12 yX12_hears yX12_hears ∈ gW := gW_t 1796 (by decide +kernel) rfl
theorem mC_X12_hears : Cond.code yX12_hears cX12_hears 2 (some .long) ∈ gW := gW_t 1797 (by decide +kernel) rfl
theorem ok_X12_hears : okD yX12_hears 1 := ⟨by decide +kernel, by decide +kernel, by decide +kernel⟩
theorem dL_law_792 : decode cL_law 792 = .ok (.lcmp, 1) := by decide +kernel
theorem dL_law_793 : decode cL_law 793 = .ok (.ifCond .eq 667, 3) := by decide +kernel
theorem dL_law_798 : decode cL_law 798 = .ok (.aload_n 1, 1) := by decide +kernel
theorem dL_law_799 : decode cL_law 799 = .ok (.aload_n 0, 1) := by decide +kernel
theorem dL_law_800 : decode cL_law 800 = .ok (.iload_n 3, 1) := by decide +kernel
theorem dL_law_801 : decode cL_law 801 = .ok (.iconst 1, 1) := by decide +kernel
theorem dL_law_802 : decode cL_law 802 = .ok (.iadd, 1) := by decide +kernel
theorem dL_law_803 : decode cL_law 803 = .ok (.iaload, 1) := by decide +kernel
theorem dL_law_804 : decode cL_law 804 = .ok (.aload_n 0, 1) := by decide +kernel
theorem dL_law_805 : decode cL_law 805 = .ok (.iload_n 3, 1) := by decide +kernel
theorem dL_law_806 : decode cL_law 806 = .ok (.iconst 2, 1) := by decide +kernel
theorem dL_law_807 : decode cL_law 807 = .ok (.iadd, 1) := by decide +kernel
theorem dL_law_808 : decode cL_law 808 = .ok (.iaload, 1) := by decide +kernel
theorem dL_law_809 : decode cL_law 809 = .ok (.invokevirtual 103, 3) := by decide +kernel
theorem lk_RL_103 : Cond.methodLink RL 103 yX11_dig ∈ gW := gW_t 1004 (by decide +kernel) rfl
theorem mI_X11_dig : Cond.instanceMethod yX11_dig ∈ gW := gW_t 1005 (by decide +kernel) rfl
theorem mS_X11_dig : Cond.selects RX11 yX11_dig yX11_dig ∈ gW := gW_t 1006 (by decide +kernel) rfl
theorem mC_X11_dig : Cond.code yX11_dig cX11_dig 3 (some .int) ∈ gW := gW_t 1007 (by decide +kernel) rfl
theorem ok_X11_dig : okD yX11_dig 2 := ⟨by decide +kernel, by decide +kernel, by decide +kernel⟩
theorem dL_law_812 : decode cL_law 812 = .ok (.aload_n 2, 1) := by decide +kernel
theorem dL_law_813 : decode cL_law 813 = .ok (.aload_n 0, 1) := by decide +kernel
theorem dL_law_814 : decode cL_law 814 = .ok (.iload_n 3, 1) := by decide +kernel
theorem dL_law_815 : decode cL_law 815 = .ok (.iconst 1, 1) := by decide +kernel
theorem dL_law_816 : decode cL_law 816 = .ok (.iadd, 1) := by decide +kernel
theorem dL_law_817 : decode cL_law 817 = .ok (.iaload, 1) := by decide +kernel
theorem dL_law_818 : decode cL_law 818 = .ok (.aload_n 0, 1) := by decide +kernel
theorem dL_law_819 : decode cL_law 819 = .ok (.iload_n 3, 1) := by decide +kernel
theorem dL_law_820 : decode cL_law 820 = .ok (.iconst 2, 1) := by decide +kernel
theorem dL_law_821 : decode cL_law 821 = .ok (.iadd, 1) := by decide +kernel
theorem dL_law_822 : decode cL_law 822 = .ok (.iaload, 1) := by decide +kernel
theorem dL_law_823 : decode cL_law 823 = .ok (.invokevirtual 106, 3) := by decide +kernel
theorem lk_RL_106 : Cond.methodLink RL 106 yX12_dig ∈ gW := gW_t 1806 (by decide +kernel) rfl
theorem mI_X12_dig : Cond.instanceMethod yX12_dig ∈ gW := gW_t 1807 (by decide +kernel) rfl
theorem mS_X12_dig : Cond.selects RX12 yX12_dig yX12_dig ∈ gW := gW_t 1808 (by decide +kernel) rfl
theorem mC_X12_dig : Cond.code yX12_dig cX12_dig 3 (some .int) ∈ gW := gW_t 1809 (by decide +kernel) rfl
theorem ok_X12_dig : okD yX12_dig 2 := ⟨by decide +kernel, by decide +kernel, by decide +kernel⟩
theorem dL_law_826 : decode cL_law 826 = .ok (.if_icmp .eq 634, 3) := by decide +kernel
theorem dL_law_831 : decode cL_law 831 = .ok (.aload_n 1, 1) := by decide +kernel
theorem dL_law_832 : decode cL_law 832 = .ok (.aload_n 0, 1) := by decide +kernel
theorem dL_law_833 : decode cL_law 833 = .ok (.iload_n 3, 1) := by decide +kernel
theorem dL_law_834 : decode cL_law 834 = .ok (.iconst 1, 1) := by decide +kernel
theorem dL_law_835 : decode cL_law 835 = .ok (.iadd, 1) := by decide +kernel
theorem dL_law_836 : decode cL_law 836 = .ok (.iaload, 1) := by decide +kernel
theorem dL_law_837 : decode cL_law 837 = .ok (.invokevirtual 107, 3) := by decide +kernel
theorem lk_RL_107 : Cond.methodLink RL 107 yX11_haul ∈ gW := gW_t 1009 (by decide +kernel) rfl
theorem mI_X11_haul : Cond.instanceMethod yX11_haul ∈ gW := gW_t 1010 (by decide +kernel) rfl
theorem mS_X11_haul : Cond.selects RX11 yX11_haul yX11_haul ∈ gW := gW_t 1011 (by decide +kernel) rfl
theorem mC_X11_haul : Cond.code yX11_haul cX11_haul 2 (some .int) ∈ gW := gW_t 1012 (by decide +kernel) rfl
theorem ok_X11_haul : okD yX11_haul 1 := ⟨by decide +kernel, by decide +kernel, by decide +kernel⟩
theorem dL_law_840 : decode cL_law 840 = .ok (.aload_n 2, 1) := by decide +kernel
theorem dL_law_841 : decode cL_law 841 = .ok (.aload_n 0, 1) := by decide +kernel
theorem dL_law_842 : decode cL_law 842 = .ok (.iload_n 3, 1) := by decide +kernel
theorem dL_law_843 : decode cL_law 843 = .ok (.iconst 1, 1) := by decide +kernel
theorem dL_law_844 : decode cL_law 844 = .ok (.iadd, 1) := by decide +kernel
theorem dL_law_845 : decode cL_law 845 = .ok (.iaload, 1) := by decide +kernel
theorem dL_law_846 : decode cL_law 846 = .ok (.invokevirtual 110, 3) := by decide +kernel
theorem lk_RL_110 : Cond.methodLink RL 110 yX12_haul ∈ gW := gW_t 1837 (by decide +kernel) rfl
theorem mI_X12_haul : Cond.instanceMethod yX12_haul ∈ gW := gW_t 1838 (by decide +kernel) rfl
theorem mS_X12_haul : Cond.selects RX12 yX12_haul yX12_haul ∈ gW := gW_t 1839 (by decide +kernel) rfl
theorem mC_X12_haul : Cond.code yX12_haul cX12_haul 2 (some .int) ∈ gW := gW_t 1840 (by decide +kernel) rfl
theorem ok_X12_haul : okD yX12_haul 1 := ⟨by decide +kernel, by decide +kernel, by decide +kernel⟩
theorem dL_law_849 : decode cL_law 849 = .ok (.if_icmp .eq 611, 3) := by decide +kernel
theorem dL_law_854 : decode cL_law 854 = .ok (.aload_n 1, 1) := by decide +kernel
theorem dL_law_855 : decode cL_law 855 = .ok (.aload_n 0, 1) := by decide +kernel
theorem dL_law_856 : decode cL_law 856 = .ok (.iload_n 3, 1) := by decide +kernel
theorem dL_law_857 : decode cL_law 857 = .ok (.iconst 1, 1) := by decide +kernel
theorem dL_law_858 : decode cL_law 858 = .ok (.iadd, 1) := by decide +kernel
theorem dL_law_859 : decode cL_law 859 = .ok (.iaload, 1) := by decide +kernel
theorem dL_law_860 : decode cL_law 860 = .ok (.invokevirtual 111, 3) := by decide +kernel
theorem lk_RL_111 : Cond.methodLink RL 111 yX11_hush ∈ gW := gW_t 1014 (by decide +kernel) rfl
theorem mI_X11_hush : Cond.instanceMethod yX11_hush ∈ gW := gW_t 1015 (by decide +kernel) rfl
theorem mS_X11_hush : Cond.selects RX11 yX11_hush yX11_hush ∈ gW := gW_t 1016 (by decide +kernel) rfl
theorem mC_X11_hush : Cond.code yX11_hush cX11_hush 2 (some .int) ∈ gW := gW_t 1017 (by decide +kernel) rfl
theorem ok_X11_hush : okD yX11_hush 1 := ⟨by decide +kernel, by decide +kernel, by decide +kernel⟩
theorem dL_law_863 : decode cL_law 863 = .ok (.aload_n 2, 1) := by decide +kernel
theorem dL_law_864 : decode cL_law 864 = .ok (.aload_n 0, 1) := by decide +kernel
theorem dL_law_865 : decode cL_law 865 = .ok (.iload_n 3, 1) := by decide +kernel
theorem dL_law_866 : decode cL_law 866 = .ok (.iconst 1, 1) := by decide +kernel
theorem dL_law_867 : decode cL_law 867 = .ok (.iadd, 1) := by decide +kernel
theorem dL_law_868 : decode cL_law 868 = .ok (.iaload, 1) := by decide +kernel
theorem dL_law_869 : decode cL_law 869 = .ok (.invokevirtual 114, 3) := by decide +kernel
theorem lk_RL_114 : Cond.methodLink RL 114 yX12_hush ∈ gW := gW_t 1853 (by decide +kernel) rfl
theorem mI_X12_hush : Cond.instanceMethod yX12_hush ∈ gW := gW_t 1854 (by decide +kernel) rfl
theorem mS_X12_hush : Cond.selects RX12 yX12_hush yX12_hush ∈ gW := gW_t 1855 (by decide +kernel) rfl
theorem mC_X12_hush : Cond.code yX12_hush cX12_hush 2 (some .int) ∈ gW := gW_t 1856 (by decide +kernel) rfl
theorem ok_X12_hush : okD yX12_hush 1 := ⟨by decide +kernel, by decide +kernel, by decide +kernel⟩
theorem dL_law_872 : decode cL_law 872 = .ok (.if_icmp .eq 588, 3) := by decide +kernel
theorem dL_law_877 : decode cL_law 877 = .ok (.aload_n 1, 1) := by decide +kernel
theorem dL_law_878 : decode cL_law 878 = .ok (.aload_n 0, 1) := by decide +kernel
theorem dL_law_879 : decode cL_law 879 = .ok (.iload_n 3, 1) := by decide +kernel
theorem dL_law_880 : decode cL_law 880 = .ok (.iconst 1, 1) := by decide +kernel
theorem dL_law_881 : decode cL_law 881 = .ok (.iadd, 1) := by decide +kernel
theorem dL_law_882 : decode cL_law 882 = .ok (.iaload, 1) := by decide +kernel
theorem dL_law_883 : decode cL_law 883 = .ok (.aload_n 0, 1) := by decide +kernel
theorem dL_law_884 : decode cL_law 884 = .ok (.iload_n 3, 1) := by decide +kernel
theorem dL_law_885 : decode cL_law 885 = .ok (.iconst 2, 1) := by decide +kernel
theorem dL_law_886 : decode cL_law 886 = .ok (.iadd, 1) := by decide +kernel
theorem dL_law_887 : decode cL_law 887 = .ok (.iaload, 1) := by decide +kernel
theorem dL_law_888 : decode cL_law 888 = .ok (.invokevirtual 115, 3) := by decide +kernel
theorem lk_RL_115 : Cond.methodLink RL 115 yX11_lie ∈ gW := gW_t 1019 (by decide +kernel) rfl
theorem mI_X11_lie : Cond.instanceMethod yX11_lie ∈ gW := gW_t 1020 (by decide +kernel) rfl
theorem mS_X11_lie : Cond.selects RX11 yX11_lie yX11_lie ∈ gW := gW_t 1021 (by decide +kernel) rfl
theorem mC_X11_lie : Cond.code yX11_lie cX11_lie 3 (some .int) ∈ gW := gW_t 1022 (by decide +kernel) rfl
theorem ok_X11_lie : okD yX11_lie 2 := ⟨by decide +kernel, by decide +kernel, by decide +kernel⟩
theorem dL_law_891 : decode cL_law 891 = .ok (.aload_n 2, 1) := by decide +kernel
theorem dL_law_892 : decode cL_law 892 = .ok (.aload_n 0, 1) := by decide +kernel
theorem dL_law_893 : decode cL_law 893 = .ok (.iload_n 3, 1) := by decide +kernel
theorem dL_law_894 : decode cL_law 894 = .ok (.iconst 1, 1) := by decide +kernel
theorem dL_law_895 : decode cL_law 895 = .ok (.iadd, 1) := by decide +kernel
theorem dL_law_896 : decode cL_law 896 = .ok (.iaload, 1) := by decide +kernel
theorem dL_law_897 : decode cL_law 897 = .ok (.aload_n 0, 1) := by decide +kernel
theorem dL_law_898 : decode cL_law 898 = .ok (.iload_n 3, 1) := by decide +kernel
theorem dL_law_899 : decode cL_law 899 = .ok (.iconst 2, 1) := by decide +kernel
theorem dL_law_900 : decode cL_law 900 = .ok (.iadd, 1) := by decide +kernel
theorem dL_law_901 : decode cL_law 901 = .ok (.iaload, 1) := by decide +kernel
theorem dL_law_902 : decode cL_law 902 = .ok (.invokevirtual 118, 3) := by decide +kernel
theorem lk_RL_118 : Cond.methodLink RL 118 yX12_lie ∈ gW := gW_t 1861 (by decide +kernel) rfl
theorem mI_X12_lie : Cond.instanceMethod yX12_lie ∈ gW := gW_t 1862 (by decide +kernel) rfl
theorem mS_X12_lie : Cond.selects RX12 yX12_lie yX12_lie ∈ gW := gW_t 1863 (by decide +kernel) rfl
theorem mC_X12_lie : Cond.code yX12_lie cX12_lie 3 (some .int) ∈ gW := gW_t 1864 (by decide +kernel) rfl
theorem ok_X12_lie : okD yX12_lie 2 := ⟨by decide +kernel, by decide +kernel, by decide +kernel⟩
theorem dL_law_905 : decode cL_law 905 = .ok (.if_icmp .eq 555, 3) := by decide +kernel
theorem dL_law_910 : decode cL_law 910 = .ok (.aload_n 1, 1) := by decide +kernel
theorem dL_law_911 : decode cL_law 911 = .ok (.invokevirtual 119, 3) := by decide +kernel
theorem lk_RL_119 : Cond.methodLink RL 119 yX11_undo ∈ gW := gW_t 1024 (by decide +kernel) rfl
theorem mI_X11_undo : Cond.instanceMethod yX11_undo ∈ gW := gW_t 1025 (by decide +kernel) rfl
theorem mS_X11_undo : Cond.selects RX11 yX11_undo yX11_undo ∈ gW := gW_t 1026 (by decide +kernel) rfl
theorem mC_X11_undo : Cond.code yX11_undo cX11_undo 1 (some .int) ∈ gW := gW_t 1027 (by decide +kernel) rfl
theorem ok_X11_undo : okD yX11_undo 0 := ⟨by decide +kernel, by decide +kernel, by decide +kernel⟩
theorem dL_law_914 : decode cL_law 914 = .ok (.aload_n 2, 1) := by decide +kernel
theorem dL_law_915 : decode cL_law 915 = .ok (.invokevirtual 122, 3) := by decide +kernel
theorem lk_RL_122 : Cond.methodLink RL 122 yX12_undo ∈ gW := gW_t 1451 (by decide +kernel) rfl
theorem mI_X12_undo : Cond.instanceMethod yX12_undo ∈ gW := gW_t 1452 (by decide +kernel) rfl
theorem mS_X12_undo : Cond.selects RX12 yX12_undo yX12_undo ∈ gW := gW_t 1453 (by decide +kernel) rfl
theorem mC_X12_undo : Cond.code yX12_undo cX12_undo 1 (some .int) ∈ gW := gW_t 1454 (by decide +kernel) rfl
theorem ok_X12_undo : okD yX12_undo 0 := ⟨by decide +kernel, by decide +kernel, by decide +kernel⟩
theorem dL_law_918 : decode cL_law 918 = .ok (.if_icmp .eq 542, 3) := by decide +kernel
theorem dL_law_923 : decode cL_law 923 = .ok (.aload_n 1, 1) := by decide +kernel
theorem dL_law_924 : decode cL_law 924 = .ok (.aload_n 0, 1) := by decide +kernel
theorem dL_law_925 : decode cL_law 925 = .ok (.iload_n 3, 1) := by decide +kernel
theorem dL_law_926 : decode cL_law 926 = .ok (.iconst 1, 1) := by decide +kernel
theorem dL_law_927 : decode cL_law 927 = .ok (.iadd, 1) := by decide +kernel
theorem dL_law_928 : decode cL_law 928 = .ok (.iaload, 1) := by decide +kernel
theorem dL_law_929 : decode cL_law 929 = .ok (.aload_n 0, 1) := by decide +kernel
theorem dL_law_930 : decode cL_law 930 = .ok (.iload_n 3, 1) := by decide +kernel
theorem dL_law_931 : decode cL_law 931 = .ok (.iconst 2, 1) := by decide +kernel
theorem dL_law_932 : decode cL_law 932 = .ok (.iadd, 1) := by decide +kernel
theorem dL_law_933 : decode cL_law 933 = .ok (.iaload, 1) := by decide +kernel
theorem dL_law_934 : decode cL_law 934 = .ok (.aload_n 0, 1) := by decide +kernel
theorem dL_law_935 : decode cL_law 935 = .ok (.iload_n 3, 1) := by decide +kernel
theorem dL_law_936 : decode cL_law 936 = .ok (.iconst 3, 1) := by decide +kernel
theorem dL_law_937 : decode cL_law 937 = .ok (.iadd, 1) := by decide +kernel
theorem dL_law_938 : decode cL_law 938 = .ok (.iaload, 1) := by decide +kernel
theorem dL_law_939 : decode cL_law 939 = .ok (.invokevirtual 123, 3) := by decide +kernel
theorem lk_RL_123 : Cond.methodLink RL 123 yX11_down ∈ gW := gW_t 1042 (by decide +kernel) rfl
theorem mI_X11_down : Cond.instanceMethod yX11_down ∈ gW := gW_t 1043 (by decide +kernel) rfl
theorem mS_X11_down : Cond.selects RX11 yX11_down yX11_down ∈ gW := gW_t 1044 (by decide +kernel) rfl
theorem mC_X11_down : Cond.code yX11_down cX11_down 4 (some .int) ∈ gW := gW_t 1045 (by decide +kernel) rfl
theorem ok_X11_down : okD yX11_down 3 := ⟨by decide +kernel, by decide +kernel, by decide +kernel⟩
theorem dL_law_942 : decode cL_law 942 = .ok (.aload_n 2, 1) := by decide +kernel
theorem dL_law_943 : decode cL_law 943 = .ok (.aload_n 0, 1) := by decide +kernel
theorem dL_law_944 : decode cL_law 944 = .ok (.iload_n 3, 1) := by decide +kernel
theorem dL_law_945 : decode cL_law 945 = .ok (.iconst 1, 1) := by decide +kernel
theorem dL_law_946 : decode cL_law 946 = .ok (.iadd, 1) := by decide +kernel
theorem dL_law_947 : decode cL_law 947 = .ok (.iaload, 1) := by decide +kernel
theorem dL_law_948 : decode cL_law 948 = .ok (.aload_n 0, 1) := by decide +kernel
theorem dL_law_949 : decode cL_law 949 = .ok (.iload_n 3, 1) := by decide +kernel
theorem dL_law_950 : decode cL_law 950 = .ok (.iconst 2, 1) := by decide +kernel
theorem dL_law_951 : decode cL_law 951 = .ok (.iadd, 1) := by decide +kernel
theorem dL_law_952 : decode cL_law 952 = .ok (.iaload, 1) := by decide +kernel
theorem dL_law_953 : decode cL_law 953 = .ok (.aload_n 0, 1) := by decide +kernel
theorem dL_law_954 : decode cL_law 954 = .ok (.iload_n 3, 1) := by decide +kernel
theorem dL_law_955 : decode cL_law 955 = .ok (.iconst 3, 1) := by decide +kernel
theorem dL_law_956 : decode cL_law 956 = .ok (.iadd, 1) := by decide +kernel
theorem dL_law_957 : decode cL_law 957 = .ok (.iaload, 1) := by decide +kernel
theorem dL_law_958 : decode cL_law 958 = .ok (.invokevirtual 126, 3) := by decide +kernel
theorem lk_RL_126 : Cond.methodLink RL 126 yX12_down ∈ gW := gW_t 1869 (by decide +kernel) rfl
theorem mI_X12_down : Cond.instanceMethod yX12_down ∈ gW := gW_t 1870 (by decide +kernel) rfl
theorem mS_X12_down : Cond.selects RX12 yX12_down yX12_down ∈ gW := gW_t 1871 (by decide +kernel) rfl
theorem mC_X12_down : Cond.code yX12_down cX12_down 7 (some .int) ∈ gW := gW_t 1872 (by decide +kernel) rfl
theorem ok_X12_down : okD yX12_down 3 := ⟨by decide +kernel, by decide +kernel, by decide +kernel⟩
theorem dL_law_961 : decode cL_law 961 = .ok (.if_icmp .eq 499, 3) := by decide +kernel
theorem dL_law_966 : decode cL_law 966 = .ok (.aload_n 1, 1) := by decide +kernel
theorem dL_law_967 : decode cL_law 967 = .ok (.aload_n 0, 1) := by decide +kernel
theorem dL_law_968 : decode cL_law 968 = .ok (.iload_n 3, 1) := by decide +kernel
theorem dL_law_969 : decode cL_law 969 = .ok (.iconst 1, 1) := by decide +kernel
theorem dL_law_970 : decode cL_law 970 = .ok (.iadd, 1) := by decide +kernel
theorem dL_law_971 : decode cL_law 971 = .ok (.iaload, 1) := by decide +kernel
theorem dL_law_972 : decode cL_law 972 = .ok (.i2l, 1) := by decide +kernel
theorem dL_law_973 : decode cL_law 973 = .ok (.bipush 32, 2) := by decide +kernel
theorem dL_law_975 : decode cL_law 975 = .ok (.lshl, 1) := by decide +kernel
theorem dL_law_976 : decode cL_law 976 = .ok (.aload_n 0, 1) := by decide +kernel
theorem dL_law_977 : decode cL_law 977 = .ok (.iload_n 3, 1) := by decide +kernel
theorem dL_law_978 : decode cL_law 978 = .ok (.iconst 2, 1) := by decide +kernel
theorem dL_law_979 : decode cL_law 979 = .ok (.iadd, 1) := by decide +kernel
theorem dL_law_980 : decode cL_law 980 = .ok (.iaload, 1) := by decide +kernel
theorem dL_law_981 : decode cL_law 981 = .ok (.i2l, 1) := by decide +kernel
theorem dL_law_982 : decode cL_law 982 = .ok (.ldc2_w 127, 3) := by decide +kernel
theorem ct_RL_127 : Cond.constantLong RL 127 4294967295 ∈ gW := gW_t 2022 (by decide +kernel) rfl
theorem dL_law_985 : decode cL_law 985 = .ok (.land, 1) := by decide +kernel
theorem dL_law_986 : decode cL_law 986 = .ok (.lor, 1) := by decide +kernel
theorem dL_law_987 : decode cL_law 987 = .ok (.aload_n 0, 1) := by decide +kernel
theorem dL_law_988 : decode cL_law 988 = .ok (.iload_n 3, 1) := by decide +kernel
theorem dL_law_989 : decode cL_law 989 = .ok (.iconst 3, 1) := by decide +kernel
theorem dL_law_990 : decode cL_law 990 = .ok (.iadd, 1) := by decide +kernel
theorem dL_law_991 : decode cL_law 991 = .ok (.iaload, 1) := by decide +kernel
theorem dL_law_992 : decode cL_law 992 = .ok (.invokevirtual 129, 3) := by decide +kernel
theorem lk_RL_129 : Cond.methodLink RL 129 yX11_gangs ∈ gW := gW_t 1074 (by decide +kernel) rfl
theorem mI_X11_gangs : Cond.instanceMethod yX11_gangs ∈ gW := gW_t 1075 (by decide +kernel) rfl
theorem mS_X11_gangs : Cond.selects RX11 yX11_gangs yX11_gangs ∈ gW := gW_t 1076 (by decide +kernel) rfl
theorem mC_X11_gangs : Cond.code yX11_gangs cX11_gangs 5 (some .int) ∈ gW := gW_t 1077 (by decide +kernel) rfl
theorem ok_X11_gangs : okD yX11_gangs 2 := ⟨by decide +kernel, by decide +kernel, by decide +kernel⟩
theorem dL_law_995 : decode cL_law 995 = .ok (.aload_n 2, 1) := by decide +kernel
theorem dL_law_996 : decode cL_law 996 = .ok (.aload_n 0, 1) := by decide +kernel
theorem dL_law_997 : decode cL_law 997 = .ok (.iload_n 3, 1) := by decide +kernel
theorem dL_law_998 : decode cL_law 998 = .ok (.iconst 1, 1) := by decide +kernel
theorem dL_law_999 : decode cL_law 999 = .ok (.iadd, 1) := by decide +kernel
theorem dL_law_1000 : decode cL_law 1000 = .ok (.iaload, 1) := by decide +kernel
theorem dL_law_1001 : decode cL_law 1001 = .ok (.i2l, 1) := by decide +kernel
theorem dL_law_1002 : decode cL_law 1002 = .ok (.bipush 32, 2) := by decide +kernel
theorem dL_law_1004 : decode cL_law 1004 = .ok (.lshl, 1) := by decide +kernel
theorem dL_law_1005 : decode cL_law 1005 = .ok (.aload_n 0, 1) := by decide +kernel
theorem dL_law_1006 : decode cL_law 1006 = .ok (.iload_n 3, 1) := by decide +kernel
theorem dL_law_1007 : decode cL_law 1007 = .ok (.iconst 2, 1) := by decide +kernel
theorem dL_law_1008 : decode cL_law 1008 = .ok (.iadd, 1) := by decide +kernel
theorem dL_law_1009 : decode cL_law 1009 = .ok (.iaload, 1) := by decide +kernel
theorem dL_law_1010 : decode cL_law 1010 = .ok (.i2l, 1) := by decide +kernel
theorem dL_law_1011 : decode cL_law 1011 = .ok (.ldc2_w 127, 3) := by decide +kernel
theorem dL_law_1014 : decode cL_law 1014 = .ok (.land, 1) := by decide +kernel
theorem dL_law_1015 : decode cL_law 1015 = .ok (.lor, 1) := by decide +kernel
theorem dL_law_1016 : decode cL_law 1016 = .ok (.aload_n 0, 1) := by decide +kernel
theorem dL_law_1017 : decode cL_law 1017 = .ok (.iload_n 3, 1) := by decide +kernel
theorem dL_law_1018 : decode cL_law 1018 = .ok (.iconst 3, 1) := by decide +kernel
theorem dL_law_1019 : decode cL_law 1019 = .ok (.iadd, 1) := by decide +kernel
theorem dL_law_1020 : decode cL_law 1020 = .ok (.iaload, 1) := by decide +kernel
theorem dL_law_1021 : decode cL_law 1021 = .ok (.invokevirtual 133, 3) := by decide +kernel
theorem lk_RL_133 : Cond.methodLink RL 133 yX12_gangs ∈ gW := gW_t 1886 (by decide +kernel) rfl
theorem mI_X12_gangs : Cond.instanceMethod yX12_gangs ∈ gW := gW_t 1887 (by decide +kernel) rfl
theorem mS_X12_gangs : Cond.selects RX12 yX12_gangs yX12_gangs ∈ gW := gW_t 1888 (by decide +kernel) rfl
theorem mC_X12_gangs : Cond.code yX12_gangs cX12_gangs 7 (some .int) ∈ gW := gW_t 1889 (by decide +kernel) rfl
theorem ok_X12_gangs : okD yX12_gangs 2 := ⟨by decide +kernel, by decide +kernel, by decide +kernel⟩
theorem dL_law_1024 : decode cL_law 1024 = .ok (.if_icmp .eq 436, 3) := by decide +kernel
theorem dL_law_1029 : decode cL_law 1029 = .ok (.aload_n 1, 1) := by decide +kernel
theorem dL_law_1030 : decode cL_law 1030 = .ok (.aload_n 0, 1) := by decide +kernel
theorem dL_law_1031 : decode cL_law 1031 = .ok (.iload_n 3, 1) := by decide +kernel
theorem dL_law_1032 : decode cL_law 1032 = .ok (.iconst 1, 1) := by decide +kernel
theorem dL_law_1033 : decode cL_law 1033 = .ok (.iadd, 1) := by decide +kernel
theorem dL_law_1034 : decode cL_law 1034 = .ok (.iaload, 1) := by decide +kernel
theorem dL_law_1035 : decode cL_law 1035 = .ok (.aload_n 0, 1) := by decide +kernel
theorem dL_law_1036 : decode cL_law 1036 = .ok (.iload_n 3, 1) := by decide +kernel
theorem dL_law_1037 : decode cL_law 1037 = .ok (.iconst 2, 1) := by decide +kernel
theorem dL_law_1038 : decode cL_law 1038 = .ok (.iadd, 1) := by decide +kernel
theorem dL_law_1039 : decode cL_law 1039 = .ok (.iaload, 1) := by decide +kernel
theorem dL_law_1040 : decode cL_law 1040 = .ok (.aload_n 0, 1) := by decide +kernel
theorem dL_law_1041 : decode cL_law 1041 = .ok (.iload_n 3, 1) := by decide +kernel
theorem dL_law_1042 : decode cL_law 1042 = .ok (.iconst 3, 1) := by decide +kernel
theorem dL_law_1043 : decode cL_law 1043 = .ok (.iadd, 1) := by decide +kernel
theorem dL_law_1044 : decode cL_law 1044 = .ok (.iaload, 1) := by decide +kernel
theorem dL_law_1045 : decode cL_law 1045 = .ok (.invokevirtual 134, 3) := by decide +kernel
theorem lk_RL_134 : Cond.methodLink RL 134 yX11_quiet ∈ gW := gW_t 1107 (by decide +kernel) rfl
theorem mI_X11_quiet : Cond.instanceMethod yX11_quiet ∈ gW := gW_t 1108 (by decide +kernel) rfl
theorem mS_X11_quiet : Cond.selects RX11 yX11_quiet yX11_quiet ∈ gW := gW_t 1109 (by decide +kernel) rfl
theorem mC_X11_quiet : Cond.code yX11_quiet cX11_quiet 7 (some .int) ∈ gW := gW_t 1110 (by decide +kernel) rfl
theorem ok_X11_quiet : okD yX11_quiet 3 := ⟨by decide +kernel, by decide +kernel, by decide +kernel⟩
theorem dL_law_1048 : decode cL_law 1048 = .ok (.aload_n 2, 1) := by decide +kernel
theorem dL_law_1049 : decode cL_law 1049 = .ok (.aload_n 0, 1) := by decide +kernel
theorem dL_law_1050 : decode cL_law 1050 = .ok (.iload_n 3, 1) := by decide +kernel
theorem dL_law_1051 : decode cL_law 1051 = .ok (.iconst 1, 1) := by decide +kernel
theorem dL_law_1052 : decode cL_law 1052 = .ok (.iadd, 1) := by decide +kernel
theorem dL_law_1053 : decode cL_law 1053 = .ok (.iaload, 1) := by decide +kernel
theorem dL_law_1054 : decode cL_law 1054 = .ok (.aload_n 0, 1) := by decide +kernel
theorem dL_law_1055 : decode cL_law 1055 = .ok (.iload_n 3, 1) := by decide +kernel
theorem dL_law_1056 : decode cL_law 1056 = .ok (.iconst 2, 1) := by decide +kernel
theorem dL_law_1057 : decode cL_law 1057 = .ok (.iadd, 1) := by decide +kernel
theorem dL_law_1058 : decode cL_law 1058 = .ok (.iaload, 1) := by decide +kernel
theorem dL_law_1059 : decode cL_law 1059 = .ok (.aload_n 0, 1) := by decide +kernel
theorem dL_law_1060 : decode cL_law 1060 = .ok (.iload_n 3, 1) := by decide +kernel
theorem dL_law_1061 : decode cL_law 1061 = .ok (.iconst 3, 1) := by decide +kernel
theorem dL_law_1062 : decode cL_law 1062 = .ok (.iadd, 1) := by decide +kernel
theorem dL_law_1063 : decode cL_law 1063 = .ok (.iaload, 1) := by decide +kernel
theorem dL_law_1064 : decode cL_law 1064 = .ok (.invokevirtual 137, 3) := by decide +kernel
theorem lk_RL_137 : Cond.methodLink RL 137 yX12_quiet ∈ gW := gW_t 1906 (by decide +kernel) rfl
theorem mI_X12_quiet : Cond.instanceMethod yX12_quiet ∈ gW := gW_t 1907 (by decide +kernel) rfl
theorem mS_X12_quiet : Cond.selects RX12 yX12_quiet yX12_quiet ∈ gW := gW_t 1908 (by decide +kernel) rfl
theorem mC_X12_quiet : Cond.code yX12_quiet cX12_quiet 9 (some .int) ∈ gW := gW_t 1909 (by decide +kernel) rfl
theorem ok_X12_quiet : okD yX12_quiet 3 := ⟨by decide +kernel, by decide +kernel, by decide +kernel⟩
theorem dL_law_1067 : decode cL_law 1067 = .ok (.if_icmp .eq 393, 3) := by decide +kernel
theorem dL_law_1072 : decode cL_law 1072 = .ok (.aload_n 1, 1) := by decide +kernel
theorem dL_law_1073 : decode cL_law 1073 = .ok (.aload_n 0, 1) := by decide +kernel
theorem dL_law_1074 : decode cL_law 1074 = .ok (.iload_n 3, 1) := by decide +kernel
theorem dL_law_1075 : decode cL_law 1075 = .ok (.iconst 1, 1) := by decide +kernel
theorem dL_law_1076 : decode cL_law 1076 = .ok (.iadd, 1) := by decide +kernel
theorem dL_law_1077 : decode cL_law 1077 = .ok (.iaload, 1) := by decide +kernel
theorem dL_law_1078 : decode cL_law 1078 = .ok (.aload_n 0, 1) := by decide +kernel
theorem dL_law_1079 : decode cL_law 1079 = .ok (.iload_n 3, 1) := by decide +kernel
theorem dL_law_1080 : decode cL_law 1080 = .ok (.iconst 2, 1) := by decide +kernel
theorem dL_law_1081 : decode cL_law 1081 = .ok (.iadd, 1) := by decide +kernel
theorem dL_law_1082 : decode cL_law 1082 = .ok (.iaload, 1) := by decide +kernel
theorem dL_law_1083 : decode cL_law 1083 = .ok (.invokevirtual 138, 3) := by decide +kernel
theorem lk_RL_138 : Cond.methodLink RL 138 yX11_heard ∈ gW := gW_t 1126 (by decide +kernel) rfl
theorem mI_X11_heard : Cond.instanceMethod yX11_heard ∈ gW := gW_t 1127 (by decide +kernel) rfl
theorem mS_X11_heard : Cond.selects RX11 yX11_heard yX11_heard ∈ gW := gW_t 1128 (by decide +kernel) rfl
theorem mC_X11_heard : Cond.code yX11_heard cX11_heard 4 (some .int) ∈ gW := gW_t 1129 (by decide +kernel) rfl
theorem ok_X11_heard : okD yX11_heard 2 := ⟨by decide +kernel, by decide +kernel, by decide +kernel⟩
theorem dL_law_1086 : decode cL_law 1086 = .ok (.aload_n 2, 1) := by decide +kernel
theorem dL_law_1087 : decode cL_law 1087 = .ok (.aload_n 0, 1) := by decide +kernel
theorem dL_law_1088 : decode cL_law 1088 = .ok (.iload_n 3, 1) := by decide +kernel
theorem dL_law_1089 : decode cL_law 1089 = .ok (.iconst 1, 1) := by decide +kernel
theorem dL_law_1090 : decode cL_law 1090 = .ok (.iadd, 1) := by decide +kernel
theorem dL_law_1091 : decode cL_law 1091 = .ok (.iaload, 1) := by decide +kernel
theorem dL_law_1092 : decode cL_law 1092 = .ok (.aload_n 0, 1) := by decide +kernel
theorem dL_law_1093 : decode cL_law 1093 = .ok (.iload_n 3, 1) := by decide +kernel
theorem dL_law_1094 : decode cL_law 1094 = .ok (.iconst 2, 1) := by decide +kernel
theorem dL_law_1095 : decode cL_law 1095 = .ok (.iadd, 1) := by decide +kernel
theorem dL_law_1096 : decode cL_law 1096 = .ok (.iaload, 1) := by decide +kernel
theorem dL_law_1097 : decode cL_law 1097 = .ok (.invokevirtual 141, 3) := by decide +kernel
theorem lk_RL_141 : Cond.methodLink RL 141 yX12_heard ∈ gW := gW_t 1910 (by decide +kernel) rfl
theorem mI_X12_heard : Cond.instanceMethod yX12_heard ∈ gW := gW_t 1911 (by decide +kernel) rfl
theorem mS_X12_heard : Cond.selects RX12 yX12_heard yX12_heard ∈ gW := gW_t 1912 (by decide +kernel) rfl
theorem mC_X12_heard : Cond.code yX12_heard cX12_heard 4 (some .int) ∈ gW := gW_t 1913 (by decide +kernel) rfl
theorem ok_X12_heard : okD yX12_heard 2 := ⟨by decide +kernel, by decide +kernel, by decide +kernel⟩
theorem dL_law_1100 : decode cL_law 1100 = .ok (.if_icmp .eq 360, 3) := by decide +kernel
