theorem dL_law_746 : decode code 746 = .ok (.iconst 1, 1) := by decide +kernel
theorem dL_law_747 : decode code 747 = .ok (.iadd, 1) := by decide +kernel
theorem dL_law_748 : decode code 748 = .ok (.iaload, 1) := by decide +kernel
theorem dL_law_749 : decode code 749 = .ok (.invokevirtual 97, 3) := by decide +kernel
theorem dL_law_752 : decode code 752 = .ok (.aload_n 2, 1) := by decide +kernel
theorem dL_law_753 : decode code 753 = .ok (.aload_n 0, 1) := by decide +kernel
theorem dL_law_754 : decode code 754 = .ok (.iload_n 3, 1) := by decide +kernel
theorem dL_law_755 : decode code 755 = .ok (.iconst 1, 1) := by decide +kernel
theorem dL_law_756 : decode code 756 = .ok (.iadd, 1) := by decide +kernel
theorem dL_law_757 : decode code 757 = .ok (.iaload, 1) := by decide +kernel
theorem dL_law_758 : decode code 758 = .ok (.invokevirtual 100, 3) := by decide +kernel
theorem dL_law_761 : decode code 761 = .ok (.if_icmp .eq 577, 3) := by decide +kernel
theorem dL_law_766 : decode code 766 = .ok (.aload_n 1, 1) := by decide +kernel
theorem dL_law_767 : decode code 767 = .ok (.aload_n 0, 1) := by decide +kernel
theorem dL_law_768 : decode code 768 = .ok (.iload_n 3, 1) := by decide +kernel
theorem dL_law_769 : decode code 769 = .ok (.iconst 1, 1) := by decide +kernel
theorem dL_law_770 : decode code 770 = .ok (.iadd, 1) := by decide +kernel
theorem dL_law_771 : decode code 771 = .ok (.iaload, 1) := by decide +kernel
theorem dL_law_772 : decode code 772 = .ok (.invokevirtual 101, 3) := by decide +kernel
theorem dL_law_775 : decode code 775 = .ok (.aload_n 2, 1) := by decide +kernel
theorem dL_law_776 : decode code 776 = .ok (.aload_n 0, 1) := by decide +kernel
theorem dL_law_777 : decode code 777 = .ok (.iload_n 3, 1) := by decide +kernel
theorem dL_law_778 : decode code 778 = .ok (.iconst 1, 1) := by decide +kernel
theorem dL_law_779 : decode code 779 = .ok (.iadd, 1) := by decide +kernel
theorem dL_law_780 : decode code 780 = .ok (.iaload, 1) := by decide +kernel
theorem dL_law_781 : decode code 781 = .ok (.invokevirtual 104, 3) := by decide +kernel
theorem dL_law_784 : decode code 784 = .ok (.if_icmp .eq 554, 3) := by decide +kernel
theorem dL_law_789 : decode code 789 = .ok (.aload_n 1, 1) := by decide +kernel
theorem dL_law_790 : decode code 790 = .ok (.aload_n 0, 1) := by decide +kernel
theorem dL_law_791 : decode code 791 = .ok (.iload_n 3, 1) := by decide +kernel
theorem dL_law_792 : decode code 792 = .ok (.iconst 1, 1) := by decide +kernel
theorem dL_law_793 : decode code 793 = .ok (.iadd, 1) := by decide +kernel
theorem dL_law_794 : decode code 794 = .ok (.iaload, 1) := by decide +kernel
theorem dL_law_795 : decode code 795 = .ok (.invokevirtual 105, 3) := by decide +kernel
theorem dL_law_798 : decode code 798 = .ok (.aload_n 2, 1) := by decide +kernel
theorem dL_law_799 : decode code 799 = .ok (.aload_n 0, 1) := by decide +kernel
theorem dL_law_800 : decode code 800 = .ok (.iload_n 3, 1) := by decide +kernel
theorem dL_law_801 : decode code 801 = .ok (.iconst 1, 1) := by decide +kernel
theorem dL_law_802 : decode code 802 = .ok (.iadd, 1) := by decide +kernel
theorem dL_law_803 : decode code 803 = .ok (.iaload, 1) := by decide +kernel
theorem dL_law_804 : decode code 804 = .ok (.invokevirtual 108, 3) := by decide +kernel
theorem dL_law_807 : decode code 807 = .ok (.if_icmp .eq 531, 3) := by decide +kernel
theorem dL_law_812 : decode code 812 = .ok (.aload_n 1, 1) := by decide +kernel
theorem dL_law_813 : decode code 813 = .ok (.aload_n 0, 1) := by decide +kernel
theorem dL_law_814 : decode code 814 = .ok (.iload_n 3, 1) := by decide +kernel
theorem dL_law_815 : decode code 815 = .ok (.iconst 1, 1) := by decide +kernel
theorem dL_law_816 : decode code 816 = .ok (.iadd, 1) := by decide +kernel
theorem dL_law_817 : decode code 817 = .ok (.iaload, 1) := by decide +kernel
theorem dL_law_818 : decode code 818 = .ok (.invokevirtual 109, 3) := by decide +kernel
theorem dL_law_821 : decode code 821 = .ok (.aload_n 2, 1) := by decide +kernel
theorem dL_law_822 : decode code 822 = .ok (.aload_n 0, 1) := by decide +kernel
theorem dL_law_823 : decode code 823 = .ok (.iload_n 3, 1) := by decide +kernel
theorem dL_law_824 : decode code 824 = .ok (.iconst 1, 1) := by decide +kernel
theorem dL_law_825 : decode code 825 = .ok (.iadd, 1) := by decide +kernel
theorem dL_law_826 : decode code 826 = .ok (.iaload, 1) := by decide +kernel
theorem dL_law_827 : decode code 827 = .ok (.invokevirtual 112, 3) := by decide +kernel
theorem dL_law_830 : decode code 830 = .ok (.if_icmp .eq 508, 3) := by decide +kernel
theorem dL_law_835 : decode code 835 = .ok (.aload_n 1, 1) := by decide +kernel
theorem dL_law_836 : decode code 836 = .ok (.invokevirtual 113, 3) := by decide +kernel
theorem dL_law_839 : decode code 839 = .ok (.aload_n 2, 1) := by decide +kernel
theorem dL_law_840 : decode code 840 = .ok (.invokevirtual 116, 3) := by decide +kernel
theorem dL_law_843 : decode code 843 = .ok (.if_icmp .eq 495, 3) := by decide +kernel
theorem dL_law_848 : decode code 848 = .ok (.aload_n 1, 1) := by decide +kernel
theorem dL_law_849 : decode code 849 = .ok (.aload_n 0, 1) := by decide +kernel
theorem dL_law_850 : decode code 850 = .ok (.iload_n 3, 1) := by decide +kernel
theorem dL_law_851 : decode code 851 = .ok (.iconst 1, 1) := by decide +kernel
theorem dL_law_852 : decode code 852 = .ok (.iadd, 1) := by decide +kernel
theorem dL_law_853 : decode code 853 = .ok (.iaload, 1) := by decide +kernel
theorem dL_law_854 : decode code 854 = .ok (.invokevirtual 117, 3) := by decide +kernel
theorem dL_law_857 : decode code 857 = .ok (.aload_n 2, 1) := by decide +kernel
theorem dL_law_858 : decode code 858 = .ok (.aload_n 0, 1) := by decide +kernel
theorem dL_law_859 : decode code 859 = .ok (.iload_n 3, 1) := by decide +kernel
theorem dL_law_860 : decode code 860 = .ok (.iconst 1, 1) := by decide +kernel
theorem dL_law_861 : decode code 861 = .ok (.iadd, 1) := by decide +kernel
theorem dL_law_862 : decode code 862 = .ok (.iaload, 1) := by decide +kernel
theorem dL_law_863 : decode code 863 = .ok (.invokevirtual 120, 3) := by decide +kernel
theorem dL_law_866 : decode code 866 = .ok (.if_icmp .eq 472, 3) := by decide +kernel
theorem dL_law_871 : decode code 871 = .ok (.aload_n 1, 1) := by decide +kernel
theorem dL_law_872 : decode code 872 = .ok (.aload_n 0, 1) := by decide +kernel
theorem dL_law_873 : decode code 873 = .ok (.iload_n 3, 1) := by decide +kernel
theorem dL_law_874 : decode code 874 = .ok (.iconst 1, 1) := by decide +kernel
theorem dL_law_875 : decode code 875 = .ok (.iadd, 1) := by decide +kernel
theorem dL_law_876 : decode code 876 = .ok (.iaload, 1) := by decide +kernel
theorem dL_law_877 : decode code 877 = .ok (.aload_n 0, 1) := by decide +kernel
theorem dL_law_878 : decode code 878 = .ok (.iload_n 3, 1) := by decide +kernel
theorem dL_law_879 : decode code 879 = .ok (.iconst 2, 1) := by decide +kernel
theorem dL_law_880 : decode code 880 = .ok (.iadd, 1) := by decide +kernel
theorem dL_law_881 : decode code 881 = .ok (.iaload, 1) := by decide +kernel
theorem dL_law_882 : decode code 882 = .ok (.invokevirtual 121, 3) := by decide +kernel
theorem dL_law_885 : decode code 885 = .ok (.aload_n 2, 1) := by decide +kernel
theorem dL_law_886 : decode code 886 = .ok (.aload_n 0, 1) := by decide +kernel
theorem dL_law_887 : decode code 887 = .ok (.iload_n 3, 1) := by decide +kernel
theorem dL_law_888 : decode code 888 = .ok (.iconst 1, 1) := by decide +kernel
theorem dL_law_889 : decode code 889 = .ok (.iadd, 1) := by decide +kernel
theorem dL_law_890 : decode code 890 = .ok (.iaload, 1) := by decide +kernel
theorem dL_law_891 : decode code 891 = .ok (.aload_n 0, 1) := by decide +kernel
theorem dL_law_892 : decode code 892 = .ok (.iload_n 3, 1) := by decide +kernel
theorem dL_law_893 : decode code 893 = .ok (.iconst 2, 1) := by decide +kernel
theorem dL_law_894 : decode code 894 = .ok (.iadd, 1) := by decide +kernel
theorem dL_law_895 : decode code 895 = .ok (.iaload, 1) := by decide +kernel
