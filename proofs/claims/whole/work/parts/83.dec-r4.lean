/-! decode rows of the law -/
theorem d_Law_law_799 : decode c_Law_law 799 = .ok (.istore 5, 2) := by decide +kernel
theorem d_Law_law_801 : decode c_Law_law 801 = .ok (.aload_n 2, 1) := by decide +kernel
theorem d_Law_law_802 : decode c_Law_law 802 = .ok (.aload_n 0, 1) := by decide +kernel
theorem d_Law_law_803 : decode c_Law_law 803 = .ok (.iload 4, 2) := by decide +kernel
theorem d_Law_law_805 : decode c_Law_law 805 = .ok (.iconst 1, 1) := by decide +kernel
theorem d_Law_law_806 : decode c_Law_law 806 = .ok (.iadd, 1) := by decide +kernel
theorem d_Law_law_807 : decode c_Law_law 807 = .ok (.iaload, 1) := by decide +kernel
theorem d_Law_law_808 : decode c_Law_law 808 = .ok (.aload_n 0, 1) := by decide +kernel
theorem d_Law_law_809 : decode c_Law_law 809 = .ok (.iload 4, 2) := by decide +kernel
theorem d_Law_law_811 : decode c_Law_law 811 = .ok (.iconst 2, 1) := by decide +kernel
theorem d_Law_law_812 : decode c_Law_law 812 = .ok (.iadd, 1) := by decide +kernel
theorem d_Law_law_813 : decode c_Law_law 813 = .ok (.iaload, 1) := by decide +kernel
theorem d_Law_law_814 : decode c_Law_law 814 = .ok (.aload_n 0, 1) := by decide +kernel
theorem d_Law_law_815 : decode c_Law_law 815 = .ok (.iload 4, 2) := by decide +kernel
theorem d_Law_law_817 : decode c_Law_law 817 = .ok (.iconst 3, 1) := by decide +kernel
theorem d_Law_law_818 : decode c_Law_law 818 = .ok (.iadd, 1) := by decide +kernel
theorem d_Law_law_819 : decode c_Law_law 819 = .ok (.iaload, 1) := by decide +kernel
theorem d_Law_law_820 : decode c_Law_law 820 = .ok (.invokevirtual 107, 3) := by decide +kernel
theorem d_Law_law_823 : decode c_Law_law 823 = .ok (.istore 6, 2) := by decide +kernel
theorem d_Law_law_825 : decode c_Law_law 825 = .ok (.aload_n 2, 1) := by decide +kernel
theorem d_Law_law_826 : decode c_Law_law 826 = .ok (.invokevirtual 57, 3) := by decide +kernel
theorem d_Law_law_829 : decode c_Law_law 829 = .ok (.iload 5, 2) := by decide +kernel
theorem d_Law_law_831 : decode c_Law_law 831 = .ok (.if_icmp .eq 5, 3) := by decide +kernel
theorem d_Law_law_834 : decode c_Law_law 834 = .ok (.iconst 0, 1) := by decide +kernel
theorem d_Law_law_835 : decode c_Law_law 835 = .ok (.ireturn, 1) := by decide +kernel
theorem d_Law_law_836 : decode c_Law_law 836 = .ok (.iload 5, 2) := by decide +kernel
theorem d_Law_law_838 : decode c_Law_law 838 = .ok (.ifCond .ne 15, 3) := by decide +kernel
theorem d_Law_law_841 : decode c_Law_law 841 = .ok (.aload_n 3, 1) := by decide +kernel
theorem d_Law_law_842 : decode c_Law_law 842 = .ok (.iconst 0, 1) := by decide +kernel
theorem d_Law_law_843 : decode c_Law_law 843 = .ok (.laload, 1) := by decide +kernel
theorem d_Law_law_844 : decode c_Law_law 844 = .ok (.iload 6, 2) := by decide +kernel
theorem d_Law_law_846 : decode c_Law_law 846 = .ok (.i2l, 1) := by decide +kernel
theorem d_Law_law_847 : decode c_Law_law 847 = .ok (.lcmp, 1) := by decide +kernel
theorem d_Law_law_848 : decode c_Law_law 848 = .ok (.ifCond .eq 5, 3) := by decide +kernel
theorem d_Law_law_851 : decode c_Law_law 851 = .ok (.iconst 0, 1) := by decide +kernel
theorem d_Law_law_852 : decode c_Law_law 852 = .ok (.ireturn, 1) := by decide +kernel
theorem d_Law_law_853 : decode c_Law_law 853 = .ok (.goto 361, 3) := by decide +kernel
theorem d_Law_law_856 : decode c_Law_law 856 = .ok (.aload_n 1, 1) := by decide +kernel
theorem d_Law_law_857 : decode c_Law_law 857 = .ok (.aload_n 0, 1) := by decide +kernel
theorem d_Law_law_858 : decode c_Law_law 858 = .ok (.iload 4, 2) := by decide +kernel
theorem d_Law_law_860 : decode c_Law_law 860 = .ok (.iconst 1, 1) := by decide +kernel
theorem d_Law_law_861 : decode c_Law_law 861 = .ok (.iadd, 1) := by decide +kernel
theorem d_Law_law_862 : decode c_Law_law 862 = .ok (.iaload, 1) := by decide +kernel
theorem d_Law_law_863 : decode c_Law_law 863 = .ok (.aload_n 0, 1) := by decide +kernel
theorem d_Law_law_864 : decode c_Law_law 864 = .ok (.iload 4, 2) := by decide +kernel
theorem d_Law_law_866 : decode c_Law_law 866 = .ok (.iconst 2, 1) := by decide +kernel
theorem d_Law_law_867 : decode c_Law_law 867 = .ok (.iadd, 1) := by decide +kernel
theorem d_Law_law_868 : decode c_Law_law 868 = .ok (.iaload, 1) := by decide +kernel
theorem d_Law_law_869 : decode c_Law_law 869 = .ok (.aload_n 0, 1) := by decide +kernel
theorem d_Law_law_870 : decode c_Law_law 870 = .ok (.iload 4, 2) := by decide +kernel
theorem d_Law_law_872 : decode c_Law_law 872 = .ok (.iconst 3, 1) := by decide +kernel
theorem d_Law_law_873 : decode c_Law_law 873 = .ok (.iadd, 1) := by decide +kernel
theorem d_Law_law_874 : decode c_Law_law 874 = .ok (.iaload, 1) := by decide +kernel
theorem d_Law_law_875 : decode c_Law_law 875 = .ok (.invokevirtual 108, 3) := by decide +kernel
theorem d_Law_law_878 : decode c_Law_law 878 = .ok (.aload_n 2, 1) := by decide +kernel
theorem d_Law_law_879 : decode c_Law_law 879 = .ok (.aload_n 0, 1) := by decide +kernel
theorem d_Law_law_880 : decode c_Law_law 880 = .ok (.iload 4, 2) := by decide +kernel
theorem d_Law_law_882 : decode c_Law_law 882 = .ok (.iconst 1, 1) := by decide +kernel
theorem d_Law_law_883 : decode c_Law_law 883 = .ok (.iadd, 1) := by decide +kernel
theorem d_Law_law_884 : decode c_Law_law 884 = .ok (.iaload, 1) := by decide +kernel
theorem d_Law_law_885 : decode c_Law_law 885 = .ok (.aload_n 0, 1) := by decide +kernel
theorem d_Law_law_886 : decode c_Law_law 886 = .ok (.iload 4, 2) := by decide +kernel
theorem d_Law_law_888 : decode c_Law_law 888 = .ok (.iconst 2, 1) := by decide +kernel
theorem d_Law_law_889 : decode c_Law_law 889 = .ok (.iadd, 1) := by decide +kernel
theorem d_Law_law_890 : decode c_Law_law 890 = .ok (.iaload, 1) := by decide +kernel
theorem d_Law_law_891 : decode c_Law_law 891 = .ok (.aload_n 0, 1) := by decide +kernel
theorem d_Law_law_892 : decode c_Law_law 892 = .ok (.iload 4, 2) := by decide +kernel
theorem d_Law_law_894 : decode c_Law_law 894 = .ok (.iconst 3, 1) := by decide +kernel
theorem d_Law_law_895 : decode c_Law_law 895 = .ok (.iadd, 1) := by decide +kernel
theorem d_Law_law_896 : decode c_Law_law 896 = .ok (.iaload, 1) := by decide +kernel
theorem d_Law_law_897 : decode c_Law_law 897 = .ok (.invokevirtual 112, 3) := by decide +kernel
theorem d_Law_law_900 : decode c_Law_law 900 = .ok (.if_icmp .eq 314, 3) := by decide +kernel
theorem d_Law_law_903 : decode c_Law_law 903 = .ok (.iconst 0, 1) := by decide +kernel
theorem d_Law_law_904 : decode c_Law_law 904 = .ok (.ireturn, 1) := by decide +kernel
theorem d_Law_law_905 : decode c_Law_law 905 = .ok (.aload_n 1, 1) := by decide +kernel
theorem d_Law_law_906 : decode c_Law_law 906 = .ok (.aload_n 0, 1) := by decide +kernel
theorem d_Law_law_907 : decode c_Law_law 907 = .ok (.iload 4, 2) := by decide +kernel
theorem d_Law_law_909 : decode c_Law_law 909 = .ok (.iconst 1, 1) := by decide +kernel
theorem d_Law_law_910 : decode c_Law_law 910 = .ok (.iadd, 1) := by decide +kernel
theorem d_Law_law_911 : decode c_Law_law 911 = .ok (.iaload, 1) := by decide +kernel
theorem d_Law_law_912 : decode c_Law_law 912 = .ok (.aload_n 0, 1) := by decide +kernel
theorem d_Law_law_913 : decode c_Law_law 913 = .ok (.iload 4, 2) := by decide +kernel
theorem d_Law_law_915 : decode c_Law_law 915 = .ok (.iconst 2, 1) := by decide +kernel
theorem d_Law_law_916 : decode c_Law_law 916 = .ok (.iadd, 1) := by decide +kernel
theorem d_Law_law_917 : decode c_Law_law 917 = .ok (.iaload, 1) := by decide +kernel
theorem d_Law_law_918 : decode c_Law_law 918 = .ok (.aload_n 0, 1) := by decide +kernel
theorem d_Law_law_919 : decode c_Law_law 919 = .ok (.iload 4, 2) := by decide +kernel
theorem d_Law_law_921 : decode c_Law_law 921 = .ok (.iconst 3, 1) := by decide +kernel
theorem d_Law_law_922 : decode c_Law_law 922 = .ok (.iadd, 1) := by decide +kernel
theorem d_Law_law_923 : decode c_Law_law 923 = .ok (.iaload, 1) := by decide +kernel
theorem d_Law_law_924 : decode c_Law_law 924 = .ok (.aload_n 0, 1) := by decide +kernel
theorem d_Law_law_925 : decode c_Law_law 925 = .ok (.iload 4, 2) := by decide +kernel
theorem d_Law_law_927 : decode c_Law_law 927 = .ok (.iconst 4, 1) := by decide +kernel
theorem d_Law_law_928 : decode c_Law_law 928 = .ok (.iadd, 1) := by decide +kernel
theorem d_Law_law_929 : decode c_Law_law 929 = .ok (.iaload, 1) := by decide +kernel
theorem d_Law_law_930 : decode c_Law_law 930 = .ok (.aload_n 3, 1) := by decide +kernel
theorem d_Law_law_931 : decode c_Law_law 931 = .ok (.invokestatic 113, 3) := by decide +kernel
theorem d_Law_law_934 : decode c_Law_law 934 = .ok (.istore 5, 2) := by decide +kernel
theorem d_Law_law_936 : decode c_Law_law 936 = .ok (.aload_n 2, 1) := by decide +kernel
theorem d_Law_law_937 : decode c_Law_law 937 = .ok (.aload_n 0, 1) := by decide +kernel
theorem d_Law_law_938 : decode c_Law_law 938 = .ok (.iload 4, 2) := by decide +kernel
theorem d_Law_law_940 : decode c_Law_law 940 = .ok (.iconst 1, 1) := by decide +kernel
theorem d_Law_law_941 : decode c_Law_law 941 = .ok (.iadd, 1) := by decide +kernel
theorem d_Law_law_942 : decode c_Law_law 942 = .ok (.iaload, 1) := by decide +kernel
theorem d_Law_law_943 : decode c_Law_law 943 = .ok (.aload_n 0, 1) := by decide +kernel
theorem d_Law_law_944 : decode c_Law_law 944 = .ok (.iload 4, 2) := by decide +kernel
theorem d_Law_law_946 : decode c_Law_law 946 = .ok (.iconst 2, 1) := by decide +kernel
theorem d_Law_law_947 : decode c_Law_law 947 = .ok (.iadd, 1) := by decide +kernel
theorem d_Law_law_948 : decode c_Law_law 948 = .ok (.iaload, 1) := by decide +kernel
theorem d_Law_law_949 : decode c_Law_law 949 = .ok (.aload_n 0, 1) := by decide +kernel
theorem d_Law_law_950 : decode c_Law_law 950 = .ok (.iload 4, 2) := by decide +kernel
theorem d_Law_law_952 : decode c_Law_law 952 = .ok (.iconst 3, 1) := by decide +kernel
theorem d_Law_law_953 : decode c_Law_law 953 = .ok (.iadd, 1) := by decide +kernel
theorem d_Law_law_954 : decode c_Law_law 954 = .ok (.iaload, 1) := by decide +kernel
theorem d_Law_law_955 : decode c_Law_law 955 = .ok (.aload_n 0, 1) := by decide +kernel
theorem d_Law_law_956 : decode c_Law_law 956 = .ok (.iload 4, 2) := by decide +kernel
theorem d_Law_law_958 : decode c_Law_law 958 = .ok (.iconst 4, 1) := by decide +kernel
theorem d_Law_law_959 : decode c_Law_law 959 = .ok (.iadd, 1) := by decide +kernel
theorem d_Law_law_960 : decode c_Law_law 960 = .ok (.iaload, 1) := by decide +kernel
theorem d_Law_law_961 : decode c_Law_law 961 = .ok (.invokevirtual 116, 3) := by decide +kernel
