/-! decode rows of the law, by wip/whole/p81.py -/
theorem d_lw_law_779 : decode m_lw_law.2.1 779 = .ok (.istore 5, 2) := by decide +kernel
theorem d_lw_law_781 : decode m_lw_law.2.1 781 = .ok (.aload_n 2, 1) := by decide +kernel
theorem d_lw_law_782 : decode m_lw_law.2.1 782 = .ok (.aload_n 0, 1) := by decide +kernel
theorem d_lw_law_783 : decode m_lw_law.2.1 783 = .ok (.iload 4, 2) := by decide +kernel
theorem d_lw_law_785 : decode m_lw_law.2.1 785 = .ok (.iconst 1, 1) := by decide +kernel
theorem d_lw_law_786 : decode m_lw_law.2.1 786 = .ok (.iadd, 1) := by decide +kernel
theorem d_lw_law_787 : decode m_lw_law.2.1 787 = .ok (.iaload, 1) := by decide +kernel
theorem d_lw_law_788 : decode m_lw_law.2.1 788 = .ok (.aload_n 0, 1) := by decide +kernel
theorem d_lw_law_789 : decode m_lw_law.2.1 789 = .ok (.iload 4, 2) := by decide +kernel
theorem d_lw_law_791 : decode m_lw_law.2.1 791 = .ok (.iconst 2, 1) := by decide +kernel
theorem d_lw_law_792 : decode m_lw_law.2.1 792 = .ok (.iadd, 1) := by decide +kernel
theorem d_lw_law_793 : decode m_lw_law.2.1 793 = .ok (.iaload, 1) := by decide +kernel
theorem d_lw_law_794 : decode m_lw_law.2.1 794 = .ok (.aload_n 0, 1) := by decide +kernel
theorem d_lw_law_795 : decode m_lw_law.2.1 795 = .ok (.iload 4, 2) := by decide +kernel
theorem d_lw_law_797 : decode m_lw_law.2.1 797 = .ok (.iconst 3, 1) := by decide +kernel
theorem d_lw_law_798 : decode m_lw_law.2.1 798 = .ok (.iadd, 1) := by decide +kernel
theorem d_lw_law_799 : decode m_lw_law.2.1 799 = .ok (.iaload, 1) := by decide +kernel
theorem d_lw_law_800 : decode m_lw_law.2.1 800 = .ok (.ifCond .eq (7), 3) := by decide +kernel
theorem d_lw_law_803 : decode m_lw_law.2.1 803 = .ok (.iconst 1, 1) := by decide +kernel
theorem d_lw_law_804 : decode m_lw_law.2.1 804 = .ok (.goto 4, 3) := by decide +kernel
theorem d_lw_law_807 : decode m_lw_law.2.1 807 = .ok (.iconst 0, 1) := by decide +kernel
theorem d_lw_law_808 : decode m_lw_law.2.1 808 = .ok (.invokevirtual 124, 3) := by decide +kernel
theorem d_lw_law_811 : decode m_lw_law.2.1 811 = .ok (.istore 6, 2) := by decide +kernel
theorem d_lw_law_813 : decode m_lw_law.2.1 813 = .ok (.aload_n 2, 1) := by decide +kernel
theorem d_lw_law_814 : decode m_lw_law.2.1 814 = .ok (.invokevirtual 94, 3) := by decide +kernel
theorem d_lw_law_817 : decode m_lw_law.2.1 817 = .ok (.iload 5, 2) := by decide +kernel
theorem d_lw_law_819 : decode m_lw_law.2.1 819 = .ok (.if_icmp .eq (5), 3) := by decide +kernel
theorem d_lw_law_822 : decode m_lw_law.2.1 822 = .ok (.iconst 0, 1) := by decide +kernel
theorem d_lw_law_823 : decode m_lw_law.2.1 823 = .ok (.ireturn, 1) := by decide +kernel
theorem d_lw_law_824 : decode m_lw_law.2.1 824 = .ok (.iload 5, 2) := by decide +kernel
theorem d_lw_law_826 : decode m_lw_law.2.1 826 = .ok (.ifCond .ne (22), 3) := by decide +kernel
theorem d_lw_law_829 : decode m_lw_law.2.1 829 = .ok (.aload_n 3, 1) := by decide +kernel
theorem d_lw_law_830 : decode m_lw_law.2.1 830 = .ok (.iconst 0, 1) := by decide +kernel
theorem d_lw_law_831 : decode m_lw_law.2.1 831 = .ok (.laload, 1) := by decide +kernel
theorem d_lw_law_832 : decode m_lw_law.2.1 832 = .ok (.iload 6, 2) := by decide +kernel
theorem d_lw_law_834 : decode m_lw_law.2.1 834 = .ok (.ifCond .eq (7), 3) := by decide +kernel
theorem d_lw_law_837 : decode m_lw_law.2.1 837 = .ok (.lconst 1, 1) := by decide +kernel
theorem d_lw_law_838 : decode m_lw_law.2.1 838 = .ok (.goto 4, 3) := by decide +kernel
theorem d_lw_law_841 : decode m_lw_law.2.1 841 = .ok (.lconst 0, 1) := by decide +kernel
theorem d_lw_law_842 : decode m_lw_law.2.1 842 = .ok (.lcmp, 1) := by decide +kernel
theorem d_lw_law_843 : decode m_lw_law.2.1 843 = .ok (.ifCond .eq (5), 3) := by decide +kernel
theorem d_lw_law_846 : decode m_lw_law.2.1 846 = .ok (.iconst 0, 1) := by decide +kernel
theorem d_lw_law_847 : decode m_lw_law.2.1 847 = .ok (.ireturn, 1) := by decide +kernel
theorem d_lw_law_848 : decode m_lw_law.2.1 848 = .ok (.goto 655, 3) := by decide +kernel
theorem d_lw_law_851 : decode m_lw_law.2.1 851 = .ok (.aload_n 1, 1) := by decide +kernel
theorem d_lw_law_852 : decode m_lw_law.2.1 852 = .ok (.aload_n 0, 1) := by decide +kernel
theorem d_lw_law_853 : decode m_lw_law.2.1 853 = .ok (.iload 4, 2) := by decide +kernel
theorem d_lw_law_855 : decode m_lw_law.2.1 855 = .ok (.iconst 1, 1) := by decide +kernel
theorem d_lw_law_856 : decode m_lw_law.2.1 856 = .ok (.iadd, 1) := by decide +kernel
theorem d_lw_law_857 : decode m_lw_law.2.1 857 = .ok (.iaload, 1) := by decide +kernel
theorem d_lw_law_858 : decode m_lw_law.2.1 858 = .ok (.aload_n 0, 1) := by decide +kernel
theorem d_lw_law_859 : decode m_lw_law.2.1 859 = .ok (.iload 4, 2) := by decide +kernel
theorem d_lw_law_861 : decode m_lw_law.2.1 861 = .ok (.iconst 2, 1) := by decide +kernel
theorem d_lw_law_862 : decode m_lw_law.2.1 862 = .ok (.iadd, 1) := by decide +kernel
theorem d_lw_law_863 : decode m_lw_law.2.1 863 = .ok (.iaload, 1) := by decide +kernel
theorem d_lw_law_864 : decode m_lw_law.2.1 864 = .ok (.aload_n 0, 1) := by decide +kernel
theorem d_lw_law_865 : decode m_lw_law.2.1 865 = .ok (.iload 4, 2) := by decide +kernel
theorem d_lw_law_867 : decode m_lw_law.2.1 867 = .ok (.iconst 3, 1) := by decide +kernel
theorem d_lw_law_868 : decode m_lw_law.2.1 868 = .ok (.iadd, 1) := by decide +kernel
theorem d_lw_law_869 : decode m_lw_law.2.1 869 = .ok (.iaload, 1) := by decide +kernel
theorem d_lw_law_870 : decode m_lw_law.2.1 870 = .ok (.ifCond .eq (7), 3) := by decide +kernel
theorem d_lw_law_873 : decode m_lw_law.2.1 873 = .ok (.iconst 1, 1) := by decide +kernel
theorem d_lw_law_874 : decode m_lw_law.2.1 874 = .ok (.goto 4, 3) := by decide +kernel
theorem d_lw_law_877 : decode m_lw_law.2.1 877 = .ok (.iconst 0, 1) := by decide +kernel
theorem d_lw_law_878 : decode m_lw_law.2.1 878 = .ok (.aload_n 3, 1) := by decide +kernel
theorem d_lw_law_879 : decode m_lw_law.2.1 879 = .ok (.invokestatic 125, 3) := by decide +kernel
theorem d_lw_law_882 : decode m_lw_law.2.1 882 = .ok (.istore 5, 2) := by decide +kernel
theorem d_lw_law_884 : decode m_lw_law.2.1 884 = .ok (.aload_n 2, 1) := by decide +kernel
theorem d_lw_law_885 : decode m_lw_law.2.1 885 = .ok (.aload_n 0, 1) := by decide +kernel
theorem d_lw_law_886 : decode m_lw_law.2.1 886 = .ok (.iload 4, 2) := by decide +kernel
theorem d_lw_law_888 : decode m_lw_law.2.1 888 = .ok (.iconst 1, 1) := by decide +kernel
theorem d_lw_law_889 : decode m_lw_law.2.1 889 = .ok (.iadd, 1) := by decide +kernel
theorem d_lw_law_890 : decode m_lw_law.2.1 890 = .ok (.iaload, 1) := by decide +kernel
theorem d_lw_law_891 : decode m_lw_law.2.1 891 = .ok (.aload_n 0, 1) := by decide +kernel
theorem d_lw_law_892 : decode m_lw_law.2.1 892 = .ok (.iload 4, 2) := by decide +kernel
theorem d_lw_law_894 : decode m_lw_law.2.1 894 = .ok (.iconst 2, 1) := by decide +kernel
theorem d_lw_law_895 : decode m_lw_law.2.1 895 = .ok (.iadd, 1) := by decide +kernel
theorem d_lw_law_896 : decode m_lw_law.2.1 896 = .ok (.iaload, 1) := by decide +kernel
theorem d_lw_law_897 : decode m_lw_law.2.1 897 = .ok (.aload_n 0, 1) := by decide +kernel
theorem d_lw_law_898 : decode m_lw_law.2.1 898 = .ok (.iload 4, 2) := by decide +kernel
theorem d_lw_law_900 : decode m_lw_law.2.1 900 = .ok (.iconst 3, 1) := by decide +kernel
theorem d_lw_law_901 : decode m_lw_law.2.1 901 = .ok (.iadd, 1) := by decide +kernel
theorem d_lw_law_902 : decode m_lw_law.2.1 902 = .ok (.iaload, 1) := by decide +kernel
theorem d_lw_law_903 : decode m_lw_law.2.1 903 = .ok (.ifCond .eq (7), 3) := by decide +kernel
theorem d_lw_law_906 : decode m_lw_law.2.1 906 = .ok (.iconst 1, 1) := by decide +kernel
theorem d_lw_law_907 : decode m_lw_law.2.1 907 = .ok (.goto 4, 3) := by decide +kernel
theorem d_lw_law_910 : decode m_lw_law.2.1 910 = .ok (.iconst 0, 1) := by decide +kernel
theorem d_lw_law_911 : decode m_lw_law.2.1 911 = .ok (.invokevirtual 127, 3) := by decide +kernel
theorem d_lw_law_914 : decode m_lw_law.2.1 914 = .ok (.istore 6, 2) := by decide +kernel
theorem d_lw_law_916 : decode m_lw_law.2.1 916 = .ok (.aload_n 2, 1) := by decide +kernel
theorem d_lw_law_917 : decode m_lw_law.2.1 917 = .ok (.invokevirtual 94, 3) := by decide +kernel
theorem d_lw_law_920 : decode m_lw_law.2.1 920 = .ok (.iload 5, 2) := by decide +kernel
theorem d_lw_law_922 : decode m_lw_law.2.1 922 = .ok (.if_icmp .eq (5), 3) := by decide +kernel
theorem d_lw_law_925 : decode m_lw_law.2.1 925 = .ok (.iconst 0, 1) := by decide +kernel
theorem d_lw_law_926 : decode m_lw_law.2.1 926 = .ok (.ireturn, 1) := by decide +kernel
theorem d_lw_law_927 : decode m_lw_law.2.1 927 = .ok (.iload 5, 2) := by decide +kernel
theorem d_lw_law_929 : decode m_lw_law.2.1 929 = .ok (.ifCond .ne (15), 3) := by decide +kernel
theorem d_lw_law_932 : decode m_lw_law.2.1 932 = .ok (.aload_n 3, 1) := by decide +kernel
theorem d_lw_law_933 : decode m_lw_law.2.1 933 = .ok (.iconst 0, 1) := by decide +kernel
theorem d_lw_law_934 : decode m_lw_law.2.1 934 = .ok (.laload, 1) := by decide +kernel
theorem d_lw_law_935 : decode m_lw_law.2.1 935 = .ok (.iload 6, 2) := by decide +kernel
theorem d_lw_law_937 : decode m_lw_law.2.1 937 = .ok (.i2l, 1) := by decide +kernel
theorem d_lw_law_938 : decode m_lw_law.2.1 938 = .ok (.lcmp, 1) := by decide +kernel
theorem d_lw_law_939 : decode m_lw_law.2.1 939 = .ok (.ifCond .eq (5), 3) := by decide +kernel
theorem d_lw_law_942 : decode m_lw_law.2.1 942 = .ok (.iconst 0, 1) := by decide +kernel
theorem d_lw_law_943 : decode m_lw_law.2.1 943 = .ok (.ireturn, 1) := by decide +kernel
theorem d_lw_law_944 : decode m_lw_law.2.1 944 = .ok (.goto 559, 3) := by decide +kernel
theorem d_lw_law_947 : decode m_lw_law.2.1 947 = .ok (.aload_n 1, 1) := by decide +kernel
theorem d_lw_law_948 : decode m_lw_law.2.1 948 = .ok (.aload_n 0, 1) := by decide +kernel
theorem d_lw_law_949 : decode m_lw_law.2.1 949 = .ok (.iload 4, 2) := by decide +kernel
theorem d_lw_law_951 : decode m_lw_law.2.1 951 = .ok (.iconst 1, 1) := by decide +kernel
theorem d_lw_law_952 : decode m_lw_law.2.1 952 = .ok (.iadd, 1) := by decide +kernel
theorem d_lw_law_953 : decode m_lw_law.2.1 953 = .ok (.iaload, 1) := by decide +kernel
theorem d_lw_law_954 : decode m_lw_law.2.1 954 = .ok (.aload_n 0, 1) := by decide +kernel
theorem d_lw_law_955 : decode m_lw_law.2.1 955 = .ok (.iload 4, 2) := by decide +kernel
theorem d_lw_law_957 : decode m_lw_law.2.1 957 = .ok (.iconst 2, 1) := by decide +kernel
theorem d_lw_law_958 : decode m_lw_law.2.1 958 = .ok (.iadd, 1) := by decide +kernel
theorem d_lw_law_959 : decode m_lw_law.2.1 959 = .ok (.iaload, 1) := by decide +kernel
theorem d_lw_law_960 : decode m_lw_law.2.1 960 = .ok (.aload_n 0, 1) := by decide +kernel
theorem d_lw_law_961 : decode m_lw_law.2.1 961 = .ok (.iload 4, 2) := by decide +kernel
theorem d_lw_law_963 : decode m_lw_law.2.1 963 = .ok (.iconst 3, 1) := by decide +kernel
theorem d_lw_law_964 : decode m_lw_law.2.1 964 = .ok (.iadd, 1) := by decide +kernel
theorem d_lw_law_965 : decode m_lw_law.2.1 965 = .ok (.iaload, 1) := by decide +kernel
theorem d_lw_law_966 : decode m_lw_law.2.1 966 = .ok (.aload_n 3, 1) := by decide +kernel
theorem d_lw_law_967 : decode m_lw_law.2.1 967 = .ok (.invokestatic 128, 3) := by decide +kernel
theorem d_lw_law_970 : decode m_lw_law.2.1 970 = .ok (.istore 5, 2) := by decide +kernel
theorem d_lw_law_972 : decode m_lw_law.2.1 972 = .ok (.aload_n 2, 1) := by decide +kernel
theorem d_lw_law_973 : decode m_lw_law.2.1 973 = .ok (.aload_n 0, 1) := by decide +kernel
theorem d_lw_law_974 : decode m_lw_law.2.1 974 = .ok (.iload 4, 2) := by decide +kernel
theorem d_lw_law_976 : decode m_lw_law.2.1 976 = .ok (.iconst 1, 1) := by decide +kernel
theorem d_lw_law_977 : decode m_lw_law.2.1 977 = .ok (.iadd, 1) := by decide +kernel
theorem d_lw_law_978 : decode m_lw_law.2.1 978 = .ok (.iaload, 1) := by decide +kernel
theorem d_lw_law_979 : decode m_lw_law.2.1 979 = .ok (.aload_n 0, 1) := by decide +kernel
theorem d_lw_law_980 : decode m_lw_law.2.1 980 = .ok (.iload 4, 2) := by decide +kernel
theorem d_lw_law_982 : decode m_lw_law.2.1 982 = .ok (.iconst 2, 1) := by decide +kernel
theorem d_lw_law_983 : decode m_lw_law.2.1 983 = .ok (.iadd, 1) := by decide +kernel
theorem d_lw_law_984 : decode m_lw_law.2.1 984 = .ok (.iaload, 1) := by decide +kernel
theorem d_lw_law_985 : decode m_lw_law.2.1 985 = .ok (.aload_n 0, 1) := by decide +kernel
theorem d_lw_law_986 : decode m_lw_law.2.1 986 = .ok (.iload 4, 2) := by decide +kernel
theorem d_lw_law_988 : decode m_lw_law.2.1 988 = .ok (.iconst 3, 1) := by decide +kernel
theorem d_lw_law_989 : decode m_lw_law.2.1 989 = .ok (.iadd, 1) := by decide +kernel
theorem d_lw_law_990 : decode m_lw_law.2.1 990 = .ok (.iaload, 1) := by decide +kernel
theorem d_lw_law_991 : decode m_lw_law.2.1 991 = .ok (.invokevirtual 130, 3) := by decide +kernel
theorem d_lw_law_994 : decode m_lw_law.2.1 994 = .ok (.istore 6, 2) := by decide +kernel
theorem d_lw_law_996 : decode m_lw_law.2.1 996 = .ok (.aload_n 2, 1) := by decide +kernel
theorem d_lw_law_997 : decode m_lw_law.2.1 997 = .ok (.invokevirtual 94, 3) := by decide +kernel
theorem d_lw_law_1000 : decode m_lw_law.2.1 1000 = .ok (.iload 5, 2) := by decide +kernel
theorem d_lw_law_1002 : decode m_lw_law.2.1 1002 = .ok (.if_icmp .eq (5), 3) := by decide +kernel
theorem d_lw_law_1005 : decode m_lw_law.2.1 1005 = .ok (.iconst 0, 1) := by decide +kernel
theorem d_lw_law_1006 : decode m_lw_law.2.1 1006 = .ok (.ireturn, 1) := by decide +kernel
theorem d_lw_law_1007 : decode m_lw_law.2.1 1007 = .ok (.iload 5, 2) := by decide +kernel
theorem d_lw_law_1009 : decode m_lw_law.2.1 1009 = .ok (.ifCond .ne (15), 3) := by decide +kernel
theorem d_lw_law_1012 : decode m_lw_law.2.1 1012 = .ok (.aload_n 3, 1) := by decide +kernel
theorem d_lw_law_1013 : decode m_lw_law.2.1 1013 = .ok (.iconst 0, 1) := by decide +kernel
theorem d_lw_law_1014 : decode m_lw_law.2.1 1014 = .ok (.laload, 1) := by decide +kernel
theorem d_lw_law_1015 : decode m_lw_law.2.1 1015 = .ok (.iload 6, 2) := by decide +kernel
theorem d_lw_law_1017 : decode m_lw_law.2.1 1017 = .ok (.i2l, 1) := by decide +kernel
theorem d_lw_law_1018 : decode m_lw_law.2.1 1018 = .ok (.lcmp, 1) := by decide +kernel
theorem d_lw_law_1019 : decode m_lw_law.2.1 1019 = .ok (.ifCond .eq (5), 3) := by decide +kernel
theorem d_lw_law_1022 : decode m_lw_law.2.1 1022 = .ok (.iconst 0, 1) := by decide +kernel
theorem d_lw_law_1023 : decode m_lw_law.2.1 1023 = .ok (.ireturn, 1) := by decide +kernel
theorem d_lw_law_1024 : decode m_lw_law.2.1 1024 = .ok (.goto 479, 3) := by decide +kernel
theorem d_lw_law_1027 : decode m_lw_law.2.1 1027 = .ok (.aload_n 1, 1) := by decide +kernel
theorem d_lw_law_1028 : decode m_lw_law.2.1 1028 = .ok (.aload_n 0, 1) := by decide +kernel
theorem d_lw_law_1029 : decode m_lw_law.2.1 1029 = .ok (.iload 4, 2) := by decide +kernel
theorem d_lw_law_1031 : decode m_lw_law.2.1 1031 = .ok (.iconst 1, 1) := by decide +kernel
theorem d_lw_law_1032 : decode m_lw_law.2.1 1032 = .ok (.iadd, 1) := by decide +kernel
theorem d_lw_law_1033 : decode m_lw_law.2.1 1033 = .ok (.iaload, 1) := by decide +kernel
theorem d_lw_law_1034 : decode m_lw_law.2.1 1034 = .ok (.aload_n 3, 1) := by decide +kernel
theorem d_lw_law_1035 : decode m_lw_law.2.1 1035 = .ok (.invokestatic 131, 3) := by decide +kernel
theorem d_lw_law_1038 : decode m_lw_law.2.1 1038 = .ok (.istore 5, 2) := by decide +kernel
theorem d_lw_law_1040 : decode m_lw_law.2.1 1040 = .ok (.aload_n 2, 1) := by decide +kernel
theorem d_lw_law_1041 : decode m_lw_law.2.1 1041 = .ok (.aload_n 0, 1) := by decide +kernel
theorem d_lw_law_1042 : decode m_lw_law.2.1 1042 = .ok (.iload 4, 2) := by decide +kernel
theorem d_lw_law_1044 : decode m_lw_law.2.1 1044 = .ok (.iconst 1, 1) := by decide +kernel
theorem d_lw_law_1045 : decode m_lw_law.2.1 1045 = .ok (.iadd, 1) := by decide +kernel
theorem d_lw_law_1046 : decode m_lw_law.2.1 1046 = .ok (.iaload, 1) := by decide +kernel
theorem d_lw_law_1047 : decode m_lw_law.2.1 1047 = .ok (.invokevirtual 133, 3) := by decide +kernel
theorem d_lw_law_1050 : decode m_lw_law.2.1 1050 = .ok (.istore 6, 2) := by decide +kernel
theorem d_lw_law_1052 : decode m_lw_law.2.1 1052 = .ok (.aload_n 2, 1) := by decide +kernel
theorem d_lw_law_1053 : decode m_lw_law.2.1 1053 = .ok (.invokevirtual 94, 3) := by decide +kernel
theorem d_lw_law_1056 : decode m_lw_law.2.1 1056 = .ok (.iload 5, 2) := by decide +kernel
theorem d_lw_law_1058 : decode m_lw_law.2.1 1058 = .ok (.if_icmp .eq (5), 3) := by decide +kernel
theorem d_lw_law_1061 : decode m_lw_law.2.1 1061 = .ok (.iconst 0, 1) := by decide +kernel
theorem d_lw_law_1062 : decode m_lw_law.2.1 1062 = .ok (.ireturn, 1) := by decide +kernel
theorem d_lw_law_1063 : decode m_lw_law.2.1 1063 = .ok (.iload 5, 2) := by decide +kernel
theorem d_lw_law_1065 : decode m_lw_law.2.1 1065 = .ok (.ifCond .ne (15), 3) := by decide +kernel
theorem d_lw_law_1068 : decode m_lw_law.2.1 1068 = .ok (.aload_n 3, 1) := by decide +kernel
theorem d_lw_law_1069 : decode m_lw_law.2.1 1069 = .ok (.iconst 0, 1) := by decide +kernel
theorem d_lw_law_1070 : decode m_lw_law.2.1 1070 = .ok (.laload, 1) := by decide +kernel
theorem d_lw_law_1071 : decode m_lw_law.2.1 1071 = .ok (.iload 6, 2) := by decide +kernel
theorem d_lw_law_1073 : decode m_lw_law.2.1 1073 = .ok (.i2l, 1) := by decide +kernel
theorem d_lw_law_1074 : decode m_lw_law.2.1 1074 = .ok (.lcmp, 1) := by decide +kernel
theorem d_lw_law_1075 : decode m_lw_law.2.1 1075 = .ok (.ifCond .eq (5), 3) := by decide +kernel
theorem d_lw_law_1078 : decode m_lw_law.2.1 1078 = .ok (.iconst 0, 1) := by decide +kernel
theorem d_lw_law_1079 : decode m_lw_law.2.1 1079 = .ok (.ireturn, 1) := by decide +kernel
theorem d_lw_law_1080 : decode m_lw_law.2.1 1080 = .ok (.goto 423, 3) := by decide +kernel
theorem d_lw_law_1083 : decode m_lw_law.2.1 1083 = .ok (.aload_n 1, 1) := by decide +kernel
theorem d_lw_law_1084 : decode m_lw_law.2.1 1084 = .ok (.aload_n 0, 1) := by decide +kernel
theorem d_lw_law_1085 : decode m_lw_law.2.1 1085 = .ok (.iload 4, 2) := by decide +kernel
theorem d_lw_law_1087 : decode m_lw_law.2.1 1087 = .ok (.iconst 1, 1) := by decide +kernel
theorem d_lw_law_1088 : decode m_lw_law.2.1 1088 = .ok (.iadd, 1) := by decide +kernel
theorem d_lw_law_1089 : decode m_lw_law.2.1 1089 = .ok (.iaload, 1) := by decide +kernel
theorem d_lw_law_1090 : decode m_lw_law.2.1 1090 = .ok (.aload_n 3, 1) := by decide +kernel
theorem d_lw_law_1091 : decode m_lw_law.2.1 1091 = .ok (.invokestatic 134, 3) := by decide +kernel
theorem d_lw_law_1094 : decode m_lw_law.2.1 1094 = .ok (.istore 5, 2) := by decide +kernel
theorem d_lw_law_1096 : decode m_lw_law.2.1 1096 = .ok (.aload_n 2, 1) := by decide +kernel
theorem d_lw_law_1097 : decode m_lw_law.2.1 1097 = .ok (.aload_n 0, 1) := by decide +kernel
theorem d_lw_law_1098 : decode m_lw_law.2.1 1098 = .ok (.iload 4, 2) := by decide +kernel
theorem d_lw_law_1100 : decode m_lw_law.2.1 1100 = .ok (.iconst 1, 1) := by decide +kernel
theorem d_lw_law_1101 : decode m_lw_law.2.1 1101 = .ok (.iadd, 1) := by decide +kernel
theorem d_lw_law_1102 : decode m_lw_law.2.1 1102 = .ok (.iaload, 1) := by decide +kernel
theorem d_lw_law_1103 : decode m_lw_law.2.1 1103 = .ok (.invokevirtual 136, 3) := by decide +kernel
theorem d_lw_law_1106 : decode m_lw_law.2.1 1106 = .ok (.istore 6, 2) := by decide +kernel
theorem d_lw_law_1108 : decode m_lw_law.2.1 1108 = .ok (.aload_n 2, 1) := by decide +kernel
theorem d_lw_law_1109 : decode m_lw_law.2.1 1109 = .ok (.invokevirtual 94, 3) := by decide +kernel
theorem d_lw_law_1112 : decode m_lw_law.2.1 1112 = .ok (.iload 5, 2) := by decide +kernel
theorem d_lw_law_1114 : decode m_lw_law.2.1 1114 = .ok (.if_icmp .eq (5), 3) := by decide +kernel
theorem d_lw_law_1117 : decode m_lw_law.2.1 1117 = .ok (.iconst 0, 1) := by decide +kernel
theorem d_lw_law_1118 : decode m_lw_law.2.1 1118 = .ok (.ireturn, 1) := by decide +kernel
theorem d_lw_law_1119 : decode m_lw_law.2.1 1119 = .ok (.iload 5, 2) := by decide +kernel
theorem d_lw_law_1121 : decode m_lw_law.2.1 1121 = .ok (.ifCond .ne (15), 3) := by decide +kernel
theorem d_lw_law_1124 : decode m_lw_law.2.1 1124 = .ok (.aload_n 3, 1) := by decide +kernel
theorem d_lw_law_1125 : decode m_lw_law.2.1 1125 = .ok (.iconst 0, 1) := by decide +kernel
theorem d_lw_law_1126 : decode m_lw_law.2.1 1126 = .ok (.laload, 1) := by decide +kernel
theorem d_lw_law_1127 : decode m_lw_law.2.1 1127 = .ok (.iload 6, 2) := by decide +kernel
theorem d_lw_law_1129 : decode m_lw_law.2.1 1129 = .ok (.i2l, 1) := by decide +kernel
theorem d_lw_law_1130 : decode m_lw_law.2.1 1130 = .ok (.lcmp, 1) := by decide +kernel
theorem d_lw_law_1131 : decode m_lw_law.2.1 1131 = .ok (.ifCond .eq (5), 3) := by decide +kernel
theorem d_lw_law_1134 : decode m_lw_law.2.1 1134 = .ok (.iconst 0, 1) := by decide +kernel
theorem d_lw_law_1135 : decode m_lw_law.2.1 1135 = .ok (.ireturn, 1) := by decide +kernel
theorem d_lw_law_1136 : decode m_lw_law.2.1 1136 = .ok (.goto 367, 3) := by decide +kernel
theorem d_lw_law_1139 : decode m_lw_law.2.1 1139 = .ok (.aload_n 1, 1) := by decide +kernel
theorem d_lw_law_1140 : decode m_lw_law.2.1 1140 = .ok (.aload_n 0, 1) := by decide +kernel
theorem d_lw_law_1141 : decode m_lw_law.2.1 1141 = .ok (.iload 4, 2) := by decide +kernel
theorem d_lw_law_1143 : decode m_lw_law.2.1 1143 = .ok (.iconst 1, 1) := by decide +kernel
theorem d_lw_law_1144 : decode m_lw_law.2.1 1144 = .ok (.iadd, 1) := by decide +kernel
theorem d_lw_law_1145 : decode m_lw_law.2.1 1145 = .ok (.iaload, 1) := by decide +kernel
theorem d_lw_law_1146 : decode m_lw_law.2.1 1146 = .ok (.aload_n 3, 1) := by decide +kernel
theorem d_lw_law_1147 : decode m_lw_law.2.1 1147 = .ok (.invokestatic 137, 3) := by decide +kernel
theorem d_lw_law_1150 : decode m_lw_law.2.1 1150 = .ok (.istore 5, 2) := by decide +kernel
theorem d_lw_law_1152 : decode m_lw_law.2.1 1152 = .ok (.aload_n 2, 1) := by decide +kernel
theorem d_lw_law_1153 : decode m_lw_law.2.1 1153 = .ok (.aload_n 0, 1) := by decide +kernel
theorem d_lw_law_1154 : decode m_lw_law.2.1 1154 = .ok (.iload 4, 2) := by decide +kernel
theorem d_lw_law_1156 : decode m_lw_law.2.1 1156 = .ok (.iconst 1, 1) := by decide +kernel
theorem d_lw_law_1157 : decode m_lw_law.2.1 1157 = .ok (.iadd, 1) := by decide +kernel
theorem d_lw_law_1158 : decode m_lw_law.2.1 1158 = .ok (.iaload, 1) := by decide +kernel
theorem d_lw_law_1159 : decode m_lw_law.2.1 1159 = .ok (.invokevirtual 139, 3) := by decide +kernel
theorem d_lw_law_1162 : decode m_lw_law.2.1 1162 = .ok (.istore 6, 2) := by decide +kernel
theorem d_lw_law_1164 : decode m_lw_law.2.1 1164 = .ok (.aload_n 2, 1) := by decide +kernel
theorem d_lw_law_1165 : decode m_lw_law.2.1 1165 = .ok (.invokevirtual 94, 3) := by decide +kernel
theorem d_lw_law_1168 : decode m_lw_law.2.1 1168 = .ok (.iload 5, 2) := by decide +kernel
theorem d_lw_law_1170 : decode m_lw_law.2.1 1170 = .ok (.if_icmp .eq (5), 3) := by decide +kernel
theorem d_lw_law_1173 : decode m_lw_law.2.1 1173 = .ok (.iconst 0, 1) := by decide +kernel
theorem d_lw_law_1174 : decode m_lw_law.2.1 1174 = .ok (.ireturn, 1) := by decide +kernel
theorem d_lw_law_1175 : decode m_lw_law.2.1 1175 = .ok (.iload 5, 2) := by decide +kernel
theorem d_lw_law_1177 : decode m_lw_law.2.1 1177 = .ok (.ifCond .ne (15), 3) := by decide +kernel
theorem d_lw_law_1180 : decode m_lw_law.2.1 1180 = .ok (.aload_n 3, 1) := by decide +kernel
theorem d_lw_law_1181 : decode m_lw_law.2.1 1181 = .ok (.iconst 0, 1) := by decide +kernel
theorem d_lw_law_1182 : decode m_lw_law.2.1 1182 = .ok (.laload, 1) := by decide +kernel
theorem d_lw_law_1183 : decode m_lw_law.2.1 1183 = .ok (.iload 6, 2) := by decide +kernel
theorem d_lw_law_1185 : decode m_lw_law.2.1 1185 = .ok (.i2l, 1) := by decide +kernel
theorem d_lw_law_1186 : decode m_lw_law.2.1 1186 = .ok (.lcmp, 1) := by decide +kernel
theorem d_lw_law_1187 : decode m_lw_law.2.1 1187 = .ok (.ifCond .eq (5), 3) := by decide +kernel
theorem d_lw_law_1190 : decode m_lw_law.2.1 1190 = .ok (.iconst 0, 1) := by decide +kernel
theorem d_lw_law_1191 : decode m_lw_law.2.1 1191 = .ok (.ireturn, 1) := by decide +kernel
theorem d_lw_law_1192 : decode m_lw_law.2.1 1192 = .ok (.goto 311, 3) := by decide +kernel
theorem d_lw_law_1195 : decode m_lw_law.2.1 1195 = .ok (.aload_n 1, 1) := by decide +kernel
theorem d_lw_law_1196 : decode m_lw_law.2.1 1196 = .ok (.aload_n 0, 1) := by decide +kernel
theorem d_lw_law_1197 : decode m_lw_law.2.1 1197 = .ok (.iload 4, 2) := by decide +kernel
theorem d_lw_law_1199 : decode m_lw_law.2.1 1199 = .ok (.iconst 1, 1) := by decide +kernel
theorem d_lw_law_1200 : decode m_lw_law.2.1 1200 = .ok (.iadd, 1) := by decide +kernel
theorem d_lw_law_1201 : decode m_lw_law.2.1 1201 = .ok (.iaload, 1) := by decide +kernel
theorem d_lw_law_1202 : decode m_lw_law.2.1 1202 = .ok (.aload_n 0, 1) := by decide +kernel
theorem d_lw_law_1203 : decode m_lw_law.2.1 1203 = .ok (.iload 4, 2) := by decide +kernel
theorem d_lw_law_1205 : decode m_lw_law.2.1 1205 = .ok (.iconst 2, 1) := by decide +kernel
theorem d_lw_law_1206 : decode m_lw_law.2.1 1206 = .ok (.iadd, 1) := by decide +kernel
theorem d_lw_law_1207 : decode m_lw_law.2.1 1207 = .ok (.iaload, 1) := by decide +kernel
theorem d_lw_law_1208 : decode m_lw_law.2.1 1208 = .ok (.ifCond .eq (7), 3) := by decide +kernel
theorem d_lw_law_1211 : decode m_lw_law.2.1 1211 = .ok (.iconst 1, 1) := by decide +kernel
theorem d_lw_law_1212 : decode m_lw_law.2.1 1212 = .ok (.goto 4, 3) := by decide +kernel
theorem d_lw_law_1215 : decode m_lw_law.2.1 1215 = .ok (.iconst 0, 1) := by decide +kernel
theorem d_lw_law_1216 : decode m_lw_law.2.1 1216 = .ok (.aload_n 3, 1) := by decide +kernel
theorem d_lw_law_1217 : decode m_lw_law.2.1 1217 = .ok (.invokestatic 140, 3) := by decide +kernel
theorem d_lw_law_1220 : decode m_lw_law.2.1 1220 = .ok (.istore 5, 2) := by decide +kernel
theorem d_lw_law_1222 : decode m_lw_law.2.1 1222 = .ok (.aload_n 2, 1) := by decide +kernel
theorem d_lw_law_1223 : decode m_lw_law.2.1 1223 = .ok (.aload_n 0, 1) := by decide +kernel
theorem d_lw_law_1224 : decode m_lw_law.2.1 1224 = .ok (.iload 4, 2) := by decide +kernel
theorem d_lw_law_1226 : decode m_lw_law.2.1 1226 = .ok (.iconst 1, 1) := by decide +kernel
theorem d_lw_law_1227 : decode m_lw_law.2.1 1227 = .ok (.iadd, 1) := by decide +kernel
theorem d_lw_law_1228 : decode m_lw_law.2.1 1228 = .ok (.iaload, 1) := by decide +kernel
theorem d_lw_law_1229 : decode m_lw_law.2.1 1229 = .ok (.aload_n 0, 1) := by decide +kernel
theorem d_lw_law_1230 : decode m_lw_law.2.1 1230 = .ok (.iload 4, 2) := by decide +kernel
theorem d_lw_law_1232 : decode m_lw_law.2.1 1232 = .ok (.iconst 2, 1) := by decide +kernel
theorem d_lw_law_1233 : decode m_lw_law.2.1 1233 = .ok (.iadd, 1) := by decide +kernel
theorem d_lw_law_1234 : decode m_lw_law.2.1 1234 = .ok (.iaload, 1) := by decide +kernel
theorem d_lw_law_1235 : decode m_lw_law.2.1 1235 = .ok (.ifCond .eq (7), 3) := by decide +kernel
theorem d_lw_law_1238 : decode m_lw_law.2.1 1238 = .ok (.iconst 1, 1) := by decide +kernel
theorem d_lw_law_1239 : decode m_lw_law.2.1 1239 = .ok (.goto 4, 3) := by decide +kernel
theorem d_lw_law_1242 : decode m_lw_law.2.1 1242 = .ok (.iconst 0, 1) := by decide +kernel
theorem d_lw_law_1243 : decode m_lw_law.2.1 1243 = .ok (.invokevirtual 143, 3) := by decide +kernel
theorem d_lw_law_1246 : decode m_lw_law.2.1 1246 = .ok (.istore 6, 2) := by decide +kernel
theorem d_lw_law_1248 : decode m_lw_law.2.1 1248 = .ok (.aload_n 2, 1) := by decide +kernel
theorem d_lw_law_1249 : decode m_lw_law.2.1 1249 = .ok (.invokevirtual 94, 3) := by decide +kernel
theorem d_lw_law_1252 : decode m_lw_law.2.1 1252 = .ok (.iload 5, 2) := by decide +kernel
theorem d_lw_law_1254 : decode m_lw_law.2.1 1254 = .ok (.if_icmp .eq (5), 3) := by decide +kernel
theorem d_lw_law_1257 : decode m_lw_law.2.1 1257 = .ok (.iconst 0, 1) := by decide +kernel
theorem d_lw_law_1258 : decode m_lw_law.2.1 1258 = .ok (.ireturn, 1) := by decide +kernel
theorem d_lw_law_1259 : decode m_lw_law.2.1 1259 = .ok (.iload 5, 2) := by decide +kernel
theorem d_lw_law_1261 : decode m_lw_law.2.1 1261 = .ok (.ifCond .ne (15), 3) := by decide +kernel
theorem d_lw_law_1264 : decode m_lw_law.2.1 1264 = .ok (.aload_n 3, 1) := by decide +kernel
theorem d_lw_law_1265 : decode m_lw_law.2.1 1265 = .ok (.iconst 0, 1) := by decide +kernel
theorem d_lw_law_1266 : decode m_lw_law.2.1 1266 = .ok (.laload, 1) := by decide +kernel
theorem d_lw_law_1267 : decode m_lw_law.2.1 1267 = .ok (.iload 6, 2) := by decide +kernel
theorem d_lw_law_1269 : decode m_lw_law.2.1 1269 = .ok (.i2l, 1) := by decide +kernel
theorem d_lw_law_1270 : decode m_lw_law.2.1 1270 = .ok (.lcmp, 1) := by decide +kernel
theorem d_lw_law_1271 : decode m_lw_law.2.1 1271 = .ok (.ifCond .eq (5), 3) := by decide +kernel
theorem d_lw_law_1274 : decode m_lw_law.2.1 1274 = .ok (.iconst 0, 1) := by decide +kernel
theorem d_lw_law_1275 : decode m_lw_law.2.1 1275 = .ok (.ireturn, 1) := by decide +kernel
theorem d_lw_law_1276 : decode m_lw_law.2.1 1276 = .ok (.goto 227, 3) := by decide +kernel
theorem d_lw_law_1279 : decode m_lw_law.2.1 1279 = .ok (.aload_n 1, 1) := by decide +kernel
theorem d_lw_law_1280 : decode m_lw_law.2.1 1280 = .ok (.aload_n 3, 1) := by decide +kernel
theorem d_lw_law_1281 : decode m_lw_law.2.1 1281 = .ok (.invokestatic 144, 3) := by decide +kernel
theorem d_lw_law_1284 : decode m_lw_law.2.1 1284 = .ok (.istore 5, 2) := by decide +kernel
theorem d_lw_law_1286 : decode m_lw_law.2.1 1286 = .ok (.aload_n 2, 1) := by decide +kernel
theorem d_lw_law_1287 : decode m_lw_law.2.1 1287 = .ok (.invokevirtual 147, 3) := by decide +kernel
theorem d_lw_law_1290 : decode m_lw_law.2.1 1290 = .ok (.istore 6, 2) := by decide +kernel
theorem d_lw_law_1292 : decode m_lw_law.2.1 1292 = .ok (.aload_n 2, 1) := by decide +kernel
theorem d_lw_law_1293 : decode m_lw_law.2.1 1293 = .ok (.invokevirtual 94, 3) := by decide +kernel
theorem d_lw_law_1296 : decode m_lw_law.2.1 1296 = .ok (.iload 5, 2) := by decide +kernel
theorem d_lw_law_1298 : decode m_lw_law.2.1 1298 = .ok (.if_icmp .eq (5), 3) := by decide +kernel
theorem d_lw_law_1301 : decode m_lw_law.2.1 1301 = .ok (.iconst 0, 1) := by decide +kernel
theorem d_lw_law_1302 : decode m_lw_law.2.1 1302 = .ok (.ireturn, 1) := by decide +kernel
theorem d_lw_law_1303 : decode m_lw_law.2.1 1303 = .ok (.iload 5, 2) := by decide +kernel
theorem d_lw_law_1305 : decode m_lw_law.2.1 1305 = .ok (.ifCond .ne (15), 3) := by decide +kernel
theorem d_lw_law_1308 : decode m_lw_law.2.1 1308 = .ok (.aload_n 3, 1) := by decide +kernel
theorem d_lw_law_1309 : decode m_lw_law.2.1 1309 = .ok (.iconst 0, 1) := by decide +kernel
theorem d_lw_law_1310 : decode m_lw_law.2.1 1310 = .ok (.laload, 1) := by decide +kernel
theorem d_lw_law_1311 : decode m_lw_law.2.1 1311 = .ok (.iload 6, 2) := by decide +kernel
theorem d_lw_law_1313 : decode m_lw_law.2.1 1313 = .ok (.i2l, 1) := by decide +kernel
theorem d_lw_law_1314 : decode m_lw_law.2.1 1314 = .ok (.lcmp, 1) := by decide +kernel
theorem d_lw_law_1315 : decode m_lw_law.2.1 1315 = .ok (.ifCond .eq (5), 3) := by decide +kernel
theorem d_lw_law_1318 : decode m_lw_law.2.1 1318 = .ok (.iconst 0, 1) := by decide +kernel
theorem d_lw_law_1319 : decode m_lw_law.2.1 1319 = .ok (.ireturn, 1) := by decide +kernel
theorem d_lw_law_1320 : decode m_lw_law.2.1 1320 = .ok (.goto 183, 3) := by decide +kernel
theorem d_lw_law_1323 : decode m_lw_law.2.1 1323 = .ok (.aload_n 1, 1) := by decide +kernel
theorem d_lw_law_1324 : decode m_lw_law.2.1 1324 = .ok (.aload_n 0, 1) := by decide +kernel
theorem d_lw_law_1325 : decode m_lw_law.2.1 1325 = .ok (.iload 4, 2) := by decide +kernel
theorem d_lw_law_1327 : decode m_lw_law.2.1 1327 = .ok (.iconst 1, 1) := by decide +kernel
theorem d_lw_law_1328 : decode m_lw_law.2.1 1328 = .ok (.iadd, 1) := by decide +kernel
theorem d_lw_law_1329 : decode m_lw_law.2.1 1329 = .ok (.iaload, 1) := by decide +kernel
theorem d_lw_law_1330 : decode m_lw_law.2.1 1330 = .ok (.aload_n 3, 1) := by decide +kernel
theorem d_lw_law_1331 : decode m_lw_law.2.1 1331 = .ok (.invokestatic 148, 3) := by decide +kernel
theorem d_lw_law_1334 : decode m_lw_law.2.1 1334 = .ok (.istore 5, 2) := by decide +kernel
theorem d_lw_law_1336 : decode m_lw_law.2.1 1336 = .ok (.aload_n 2, 1) := by decide +kernel
theorem d_lw_law_1337 : decode m_lw_law.2.1 1337 = .ok (.aload_n 0, 1) := by decide +kernel
theorem d_lw_law_1338 : decode m_lw_law.2.1 1338 = .ok (.iload 4, 2) := by decide +kernel
theorem d_lw_law_1340 : decode m_lw_law.2.1 1340 = .ok (.iconst 1, 1) := by decide +kernel
theorem d_lw_law_1341 : decode m_lw_law.2.1 1341 = .ok (.iadd, 1) := by decide +kernel
theorem d_lw_law_1342 : decode m_lw_law.2.1 1342 = .ok (.iaload, 1) := by decide +kernel
theorem d_lw_law_1343 : decode m_lw_law.2.1 1343 = .ok (.invokevirtual 150, 3) := by decide +kernel
theorem d_lw_law_1346 : decode m_lw_law.2.1 1346 = .ok (.istore 6, 2) := by decide +kernel
theorem d_lw_law_1348 : decode m_lw_law.2.1 1348 = .ok (.aload_n 2, 1) := by decide +kernel
theorem d_lw_law_1349 : decode m_lw_law.2.1 1349 = .ok (.invokevirtual 94, 3) := by decide +kernel
theorem d_lw_law_1352 : decode m_lw_law.2.1 1352 = .ok (.iload 5, 2) := by decide +kernel
theorem d_lw_law_1354 : decode m_lw_law.2.1 1354 = .ok (.if_icmp .eq (5), 3) := by decide +kernel
theorem d_lw_law_1357 : decode m_lw_law.2.1 1357 = .ok (.iconst 0, 1) := by decide +kernel
theorem d_lw_law_1358 : decode m_lw_law.2.1 1358 = .ok (.ireturn, 1) := by decide +kernel
theorem d_lw_law_1359 : decode m_lw_law.2.1 1359 = .ok (.iload 5, 2) := by decide +kernel
theorem d_lw_law_1361 : decode m_lw_law.2.1 1361 = .ok (.ifCond .ne (15), 3) := by decide +kernel
theorem d_lw_law_1364 : decode m_lw_law.2.1 1364 = .ok (.aload_n 3, 1) := by decide +kernel
theorem d_lw_law_1365 : decode m_lw_law.2.1 1365 = .ok (.iconst 0, 1) := by decide +kernel
theorem d_lw_law_1366 : decode m_lw_law.2.1 1366 = .ok (.laload, 1) := by decide +kernel
theorem d_lw_law_1367 : decode m_lw_law.2.1 1367 = .ok (.iload 6, 2) := by decide +kernel
theorem d_lw_law_1369 : decode m_lw_law.2.1 1369 = .ok (.i2l, 1) := by decide +kernel
theorem d_lw_law_1370 : decode m_lw_law.2.1 1370 = .ok (.lcmp, 1) := by decide +kernel
theorem d_lw_law_1371 : decode m_lw_law.2.1 1371 = .ok (.ifCond .eq (5), 3) := by decide +kernel
theorem d_lw_law_1374 : decode m_lw_law.2.1 1374 = .ok (.iconst 0, 1) := by decide +kernel
theorem d_lw_law_1375 : decode m_lw_law.2.1 1375 = .ok (.ireturn, 1) := by decide +kernel
theorem d_lw_law_1376 : decode m_lw_law.2.1 1376 = .ok (.goto 127, 3) := by decide +kernel
theorem d_lw_law_1379 : decode m_lw_law.2.1 1379 = .ok (.aload_n 1, 1) := by decide +kernel
theorem d_lw_law_1380 : decode m_lw_law.2.1 1380 = .ok (.aload_n 0, 1) := by decide +kernel
theorem d_lw_law_1381 : decode m_lw_law.2.1 1381 = .ok (.iload 4, 2) := by decide +kernel
theorem d_lw_law_1383 : decode m_lw_law.2.1 1383 = .ok (.iconst 1, 1) := by decide +kernel
theorem d_lw_law_1384 : decode m_lw_law.2.1 1384 = .ok (.iadd, 1) := by decide +kernel
theorem d_lw_law_1385 : decode m_lw_law.2.1 1385 = .ok (.iaload, 1) := by decide +kernel
theorem d_lw_law_1386 : decode m_lw_law.2.1 1386 = .ok (.aload_n 0, 1) := by decide +kernel
theorem d_lw_law_1387 : decode m_lw_law.2.1 1387 = .ok (.iload 4, 2) := by decide +kernel
theorem d_lw_law_1389 : decode m_lw_law.2.1 1389 = .ok (.iconst 2, 1) := by decide +kernel
theorem d_lw_law_1390 : decode m_lw_law.2.1 1390 = .ok (.iadd, 1) := by decide +kernel
theorem d_lw_law_1391 : decode m_lw_law.2.1 1391 = .ok (.iaload, 1) := by decide +kernel
theorem d_lw_law_1392 : decode m_lw_law.2.1 1392 = .ok (.aload_n 3, 1) := by decide +kernel
theorem d_lw_law_1393 : decode m_lw_law.2.1 1393 = .ok (.invokestatic 151, 3) := by decide +kernel
theorem d_lw_law_1396 : decode m_lw_law.2.1 1396 = .ok (.istore 5, 2) := by decide +kernel
theorem d_lw_law_1398 : decode m_lw_law.2.1 1398 = .ok (.aload_n 2, 1) := by decide +kernel
theorem d_lw_law_1399 : decode m_lw_law.2.1 1399 = .ok (.aload_n 0, 1) := by decide +kernel
theorem d_lw_law_1400 : decode m_lw_law.2.1 1400 = .ok (.iload 4, 2) := by decide +kernel
theorem d_lw_law_1402 : decode m_lw_law.2.1 1402 = .ok (.iconst 1, 1) := by decide +kernel
theorem d_lw_law_1403 : decode m_lw_law.2.1 1403 = .ok (.iadd, 1) := by decide +kernel
theorem d_lw_law_1404 : decode m_lw_law.2.1 1404 = .ok (.iaload, 1) := by decide +kernel
theorem d_lw_law_1405 : decode m_lw_law.2.1 1405 = .ok (.aload_n 0, 1) := by decide +kernel
theorem d_lw_law_1406 : decode m_lw_law.2.1 1406 = .ok (.iload 4, 2) := by decide +kernel
theorem d_lw_law_1408 : decode m_lw_law.2.1 1408 = .ok (.iconst 2, 1) := by decide +kernel
theorem d_lw_law_1409 : decode m_lw_law.2.1 1409 = .ok (.iadd, 1) := by decide +kernel
theorem d_lw_law_1410 : decode m_lw_law.2.1 1410 = .ok (.iaload, 1) := by decide +kernel
theorem d_lw_law_1411 : decode m_lw_law.2.1 1411 = .ok (.invokevirtual 153, 3) := by decide +kernel
theorem d_lw_law_1414 : decode m_lw_law.2.1 1414 = .ok (.istore 6, 2) := by decide +kernel
theorem d_lw_law_1416 : decode m_lw_law.2.1 1416 = .ok (.aload_n 2, 1) := by decide +kernel
theorem d_lw_law_1417 : decode m_lw_law.2.1 1417 = .ok (.invokevirtual 94, 3) := by decide +kernel
theorem d_lw_law_1420 : decode m_lw_law.2.1 1420 = .ok (.iload 5, 2) := by decide +kernel
theorem d_lw_law_1422 : decode m_lw_law.2.1 1422 = .ok (.if_icmp .eq (5), 3) := by decide +kernel
theorem d_lw_law_1425 : decode m_lw_law.2.1 1425 = .ok (.iconst 0, 1) := by decide +kernel
theorem d_lw_law_1426 : decode m_lw_law.2.1 1426 = .ok (.ireturn, 1) := by decide +kernel
theorem d_lw_law_1427 : decode m_lw_law.2.1 1427 = .ok (.iload 5, 2) := by decide +kernel
theorem d_lw_law_1429 : decode m_lw_law.2.1 1429 = .ok (.ifCond .ne (15), 3) := by decide +kernel
theorem d_lw_law_1432 : decode m_lw_law.2.1 1432 = .ok (.aload_n 3, 1) := by decide +kernel
theorem d_lw_law_1433 : decode m_lw_law.2.1 1433 = .ok (.iconst 0, 1) := by decide +kernel
theorem d_lw_law_1434 : decode m_lw_law.2.1 1434 = .ok (.laload, 1) := by decide +kernel
theorem d_lw_law_1435 : decode m_lw_law.2.1 1435 = .ok (.iload 6, 2) := by decide +kernel
theorem d_lw_law_1437 : decode m_lw_law.2.1 1437 = .ok (.i2l, 1) := by decide +kernel
theorem d_lw_law_1438 : decode m_lw_law.2.1 1438 = .ok (.lcmp, 1) := by decide +kernel
theorem d_lw_law_1439 : decode m_lw_law.2.1 1439 = .ok (.ifCond .eq (5), 3) := by decide +kernel
theorem d_lw_law_1442 : decode m_lw_law.2.1 1442 = .ok (.iconst 0, 1) := by decide +kernel
theorem d_lw_law_1443 : decode m_lw_law.2.1 1443 = .ok (.ireturn, 1) := by decide +kernel
theorem d_lw_law_1444 : decode m_lw_law.2.1 1444 = .ok (.goto 59, 3) := by decide +kernel
theorem d_lw_law_1447 : decode m_lw_law.2.1 1447 = .ok (.aload_n 1, 1) := by decide +kernel
theorem d_lw_law_1448 : decode m_lw_law.2.1 1448 = .ok (.aload_n 0, 1) := by decide +kernel
theorem d_lw_law_1449 : decode m_lw_law.2.1 1449 = .ok (.iload 4, 2) := by decide +kernel
theorem d_lw_law_1451 : decode m_lw_law.2.1 1451 = .ok (.iconst 1, 1) := by decide +kernel
theorem d_lw_law_1452 : decode m_lw_law.2.1 1452 = .ok (.iadd, 1) := by decide +kernel
theorem d_lw_law_1453 : decode m_lw_law.2.1 1453 = .ok (.iaload, 1) := by decide +kernel
theorem d_lw_law_1454 : decode m_lw_law.2.1 1454 = .ok (.aload_n 3, 1) := by decide +kernel
theorem d_lw_law_1455 : decode m_lw_law.2.1 1455 = .ok (.invokestatic 154, 3) := by decide +kernel
theorem d_lw_law_1458 : decode m_lw_law.2.1 1458 = .ok (.istore 5, 2) := by decide +kernel
theorem d_lw_law_1460 : decode m_lw_law.2.1 1460 = .ok (.aload_n 2, 1) := by decide +kernel
theorem d_lw_law_1461 : decode m_lw_law.2.1 1461 = .ok (.aload_n 0, 1) := by decide +kernel
theorem d_lw_law_1462 : decode m_lw_law.2.1 1462 = .ok (.iload 4, 2) := by decide +kernel
theorem d_lw_law_1464 : decode m_lw_law.2.1 1464 = .ok (.iconst 1, 1) := by decide +kernel
theorem d_lw_law_1465 : decode m_lw_law.2.1 1465 = .ok (.iadd, 1) := by decide +kernel
theorem d_lw_law_1466 : decode m_lw_law.2.1 1466 = .ok (.iaload, 1) := by decide +kernel
theorem d_lw_law_1467 : decode m_lw_law.2.1 1467 = .ok (.invokevirtual 156, 3) := by decide +kernel
theorem d_lw_law_1470 : decode m_lw_law.2.1 1470 = .ok (.istore 6, 2) := by decide +kernel
theorem d_lw_law_1472 : decode m_lw_law.2.1 1472 = .ok (.aload_n 2, 1) := by decide +kernel
theorem d_lw_law_1473 : decode m_lw_law.2.1 1473 = .ok (.invokevirtual 94, 3) := by decide +kernel
theorem d_lw_law_1476 : decode m_lw_law.2.1 1476 = .ok (.iload 5, 2) := by decide +kernel
theorem d_lw_law_1478 : decode m_lw_law.2.1 1478 = .ok (.if_icmp .eq (5), 3) := by decide +kernel
theorem d_lw_law_1481 : decode m_lw_law.2.1 1481 = .ok (.iconst 0, 1) := by decide +kernel
theorem d_lw_law_1482 : decode m_lw_law.2.1 1482 = .ok (.ireturn, 1) := by decide +kernel
theorem d_lw_law_1483 : decode m_lw_law.2.1 1483 = .ok (.iload 5, 2) := by decide +kernel
theorem d_lw_law_1485 : decode m_lw_law.2.1 1485 = .ok (.ifCond .ne (15), 3) := by decide +kernel
theorem d_lw_law_1488 : decode m_lw_law.2.1 1488 = .ok (.aload_n 3, 1) := by decide +kernel
theorem d_lw_law_1489 : decode m_lw_law.2.1 1489 = .ok (.iconst 0, 1) := by decide +kernel
theorem d_lw_law_1490 : decode m_lw_law.2.1 1490 = .ok (.laload, 1) := by decide +kernel
theorem d_lw_law_1491 : decode m_lw_law.2.1 1491 = .ok (.iload 6, 2) := by decide +kernel
theorem d_lw_law_1493 : decode m_lw_law.2.1 1493 = .ok (.i2l, 1) := by decide +kernel
theorem d_lw_law_1494 : decode m_lw_law.2.1 1494 = .ok (.lcmp, 1) := by decide +kernel
theorem d_lw_law_1495 : decode m_lw_law.2.1 1495 = .ok (.ifCond .eq (5), 3) := by decide +kernel
theorem d_lw_law_1498 : decode m_lw_law.2.1 1498 = .ok (.iconst 0, 1) := by decide +kernel
theorem d_lw_law_1499 : decode m_lw_law.2.1 1499 = .ok (.ireturn, 1) := by decide +kernel
theorem d_lw_law_1500 : decode m_lw_law.2.1 1500 = .ok (.goto 3, 3) := by decide +kernel
theorem d_lw_law_1503 : decode m_lw_law.2.1 1503 = .ok (.iinc 4 5, 3) := by decide +kernel
theorem d_lw_law_1506 : decode m_lw_law.2.1 1506 = .ok (.goto (-1483), 3) := by decide +kernel
theorem d_lw_law_1509 : decode m_lw_law.2.1 1509 = .ok (.iconst 1, 1) := by decide +kernel
theorem d_lw_law_1510 : decode m_lw_law.2.1 1510 = .ok (.ireturn, 1) := by decide +kernel
