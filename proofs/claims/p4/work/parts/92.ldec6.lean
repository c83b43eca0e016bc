theorem dL_law_832 : decode code 832 = .ok (.goto 506, 3) := by decide +kernel
theorem dL_law_835 : decode code 835 = .ok (.aload_n 1, 1) := by decide +kernel
theorem dL_law_836 : decode code 836 = .ok (.invokevirtual 113, 3) := by decide +kernel
theorem dL_law_839 : decode code 839 = .ok (.pop, 1) := by decide +kernel
theorem dL_law_840 : decode code 840 = .ok (.aload_n 2, 1) := by decide +kernel
theorem dL_law_841 : decode code 841 = .ok (.invokevirtual 116, 3) := by decide +kernel
theorem dL_law_844 : decode code 844 = .ok (.pop, 1) := by decide +kernel
theorem dL_law_845 : decode code 845 = .ok (.goto 493, 3) := by decide +kernel
theorem dL_law_848 : decode code 848 = .ok (.aload_n 1, 1) := by decide +kernel
theorem dL_law_849 : decode code 849 = .ok (.aload_n 0, 1) := by decide +kernel
theorem dL_law_850 : decode code 850 = .ok (.iload_n 3, 1) := by decide +kernel
theorem dL_law_851 : decode code 851 = .ok (.iconst 1, 1) := by decide +kernel
theorem dL_law_852 : decode code 852 = .ok (.iadd, 1) := by decide +kernel
theorem dL_law_853 : decode code 853 = .ok (.iaload, 1) := by decide +kernel
theorem dL_law_854 : decode code 854 = .ok (.invokevirtual 117, 3) := by decide +kernel
theorem dL_law_857 : decode code 857 = .ok (.pop, 1) := by decide +kernel
theorem dL_law_858 : decode code 858 = .ok (.aload_n 2, 1) := by decide +kernel
theorem dL_law_859 : decode code 859 = .ok (.aload_n 0, 1) := by decide +kernel
theorem dL_law_860 : decode code 860 = .ok (.iload_n 3, 1) := by decide +kernel
theorem dL_law_861 : decode code 861 = .ok (.iconst 1, 1) := by decide +kernel
theorem dL_law_862 : decode code 862 = .ok (.iadd, 1) := by decide +kernel
theorem dL_law_863 : decode code 863 = .ok (.iaload, 1) := by decide +kernel
theorem dL_law_864 : decode code 864 = .ok (.invokevirtual 120, 3) := by decide +kernel
theorem dL_law_867 : decode code 867 = .ok (.pop, 1) := by decide +kernel
theorem dL_law_868 : decode code 868 = .ok (.goto 470, 3) := by decide +kernel
theorem dL_law_871 : decode code 871 = .ok (.aload_n 1, 1) := by decide +kernel
theorem dL_law_872 : decode code 872 = .ok (.aload_n 0, 1) := by decide +kernel
theorem dL_law_873 : decode code 873 = .ok (.iload_n 3, 1) := by decide +kernel
theorem dL_law_874 : decode code 874 = .ok (.iconst 1, 1) := by decide +kernel
theorem dL_law_875 : decode code 875 = .ok (.iadd, 1) := by decide +kernel
theorem dL_law_876 : decode code 876 = .ok (.iaload, 1) := by decide +kernel
theorem dL_law_877 : decode code 877 = .ok (.aload_n 0, 1) := by decide +kernel
theorem dL_law_878 : decode code 878 = .ok (.iload_n 3, 1) := by decide +kernel
theorem dL_law_879 : decode code 879 = .ok (.iconst 2, 1) := by decide +kernel
theorem dL_law_880 : decode code 880 = .ok (.iadd, 1) := by decide +kernel
theorem dL_law_881 : decode code 881 = .ok (.iaload, 1) := by decide +kernel
theorem dL_law_882 : decode code 882 = .ok (.invokevirtual 121, 3) := by decide +kernel
theorem dL_law_885 : decode code 885 = .ok (.pop, 1) := by decide +kernel
theorem dL_law_886 : decode code 886 = .ok (.aload_n 2, 1) := by decide +kernel
theorem dL_law_887 : decode code 887 = .ok (.aload_n 0, 1) := by decide +kernel
theorem dL_law_888 : decode code 888 = .ok (.iload_n 3, 1) := by decide +kernel
theorem dL_law_889 : decode code 889 = .ok (.iconst 1, 1) := by decide +kernel
theorem dL_law_890 : decode code 890 = .ok (.iadd, 1) := by decide +kernel
theorem dL_law_891 : decode code 891 = .ok (.iaload, 1) := by decide +kernel
theorem dL_law_892 : decode code 892 = .ok (.aload_n 0, 1) := by decide +kernel
theorem dL_law_893 : decode code 893 = .ok (.iload_n 3, 1) := by decide +kernel
theorem dL_law_894 : decode code 894 = .ok (.iconst 2, 1) := by decide +kernel
theorem dL_law_895 : decode code 895 = .ok (.iadd, 1) := by decide +kernel
theorem dL_law_896 : decode code 896 = .ok (.iaload, 1) := by decide +kernel
theorem dL_law_897 : decode code 897 = .ok (.invokevirtual 124, 3) := by decide +kernel
theorem dL_law_900 : decode code 900 = .ok (.pop, 1) := by decide +kernel
theorem dL_law_901 : decode code 901 = .ok (.goto 437, 3) := by decide +kernel
theorem dL_law_904 : decode code 904 = .ok (.aload_n 1, 1) := by decide +kernel
theorem dL_law_905 : decode code 905 = .ok (.aload_n 0, 1) := by decide +kernel
theorem dL_law_906 : decode code 906 = .ok (.iload_n 3, 1) := by decide +kernel
theorem dL_law_907 : decode code 907 = .ok (.iconst 1, 1) := by decide +kernel
theorem dL_law_908 : decode code 908 = .ok (.iadd, 1) := by decide +kernel
theorem dL_law_909 : decode code 909 = .ok (.iaload, 1) := by decide +kernel
theorem dL_law_910 : decode code 910 = .ok (.invokevirtual 125, 3) := by decide +kernel
theorem dL_law_913 : decode code 913 = .ok (.pop, 1) := by decide +kernel
theorem dL_law_914 : decode code 914 = .ok (.aload_n 2, 1) := by decide +kernel
theorem dL_law_915 : decode code 915 = .ok (.aload_n 0, 1) := by decide +kernel
theorem dL_law_916 : decode code 916 = .ok (.iload_n 3, 1) := by decide +kernel
theorem dL_law_917 : decode code 917 = .ok (.iconst 1, 1) := by decide +kernel
theorem dL_law_918 : decode code 918 = .ok (.iadd, 1) := by decide +kernel
theorem dL_law_919 : decode code 919 = .ok (.iaload, 1) := by decide +kernel
theorem dL_law_920 : decode code 920 = .ok (.invokevirtual 128, 3) := by decide +kernel
theorem dL_law_923 : decode code 923 = .ok (.pop, 1) := by decide +kernel
theorem dL_law_924 : decode code 924 = .ok (.goto 414, 3) := by decide +kernel
theorem dL_law_927 : decode code 927 = .ok (.aload_n 1, 1) := by decide +kernel
theorem dL_law_928 : decode code 928 = .ok (.invokevirtual 129, 3) := by decide +kernel
theorem dL_law_931 : decode code 931 = .ok (.pop, 1) := by decide +kernel
theorem dL_law_932 : decode code 932 = .ok (.aload_n 2, 1) := by decide +kernel
theorem dL_law_933 : decode code 933 = .ok (.invokevirtual 132, 3) := by decide +kernel
theorem dL_law_936 : decode code 936 = .ok (.pop, 1) := by decide +kernel
theorem dL_law_937 : decode code 937 = .ok (.goto 401, 3) := by decide +kernel
theorem dL_law_940 : decode code 940 = .ok (.aload_n 1, 1) := by decide +kernel
theorem dL_law_941 : decode code 941 = .ok (.aload_n 0, 1) := by decide +kernel
theorem dL_law_942 : decode code 942 = .ok (.iload_n 3, 1) := by decide +kernel
theorem dL_law_943 : decode code 943 = .ok (.iconst 1, 1) := by decide +kernel
theorem dL_law_944 : decode code 944 = .ok (.iadd, 1) := by decide +kernel
theorem dL_law_945 : decode code 945 = .ok (.iaload, 1) := by decide +kernel
theorem dL_law_946 : decode code 946 = .ok (.invokevirtual 133, 3) := by decide +kernel
theorem dL_law_949 : decode code 949 = .ok (.pop, 1) := by decide +kernel
theorem dL_law_950 : decode code 950 = .ok (.aload_n 2, 1) := by decide +kernel
theorem dL_law_951 : decode code 951 = .ok (.aload_n 0, 1) := by decide +kernel
theorem dL_law_952 : decode code 952 = .ok (.iload_n 3, 1) := by decide +kernel
theorem dL_law_953 : decode code 953 = .ok (.iconst 1, 1) := by decide +kernel
theorem dL_law_954 : decode code 954 = .ok (.iadd, 1) := by decide +kernel
theorem dL_law_955 : decode code 955 = .ok (.iaload, 1) := by decide +kernel
theorem dL_law_956 : decode code 956 = .ok (.invokevirtual 136, 3) := by decide +kernel
theorem dL_law_959 : decode code 959 = .ok (.pop, 1) := by decide +kernel
theorem dL_law_960 : decode code 960 = .ok (.goto 378, 3) := by decide +kernel
theorem dL_law_963 : decode code 963 = .ok (.aload_n 1, 1) := by decide +kernel
theorem dL_law_964 : decode code 964 = .ok (.aload_n 0, 1) := by decide +kernel
theorem dL_law_965 : decode code 965 = .ok (.iload_n 3, 1) := by decide +kernel
theorem dL_law_966 : decode code 966 = .ok (.iconst 1, 1) := by decide +kernel
theorem dL_law_967 : decode code 967 = .ok (.iadd, 1) := by decide +kernel
theorem dL_law_968 : decode code 968 = .ok (.iaload, 1) := by decide +kernel
theorem dL_law_969 : decode code 969 = .ok (.aload_n 0, 1) := by decide +kernel
