theorem qL_law_823 : decode (mB mL_law) 823 = .ok (.iaload, 1) := by decide +kernel
theorem qL_law_824 : decode (mB mL_law) 824 = .ok (.aload_n 3, 1) := by decide +kernel
theorem qL_law_825 : decode (mB mL_law) 825 = .ok (.invokestatic 222, 3) := by decide +kernel
theorem qL_law_828 : decode (mB mL_law) 828 = .ok (.istore 5, 2) := by decide +kernel
theorem qL_law_830 : decode (mB mL_law) 830 = .ok (.aload_n 2, 1) := by decide +kernel
theorem qL_law_831 : decode (mB mL_law) 831 = .ok (.aload_n 0, 1) := by decide +kernel
theorem qL_law_832 : decode (mB mL_law) 832 = .ok (.iload 4, 2) := by decide +kernel
theorem qL_law_834 : decode (mB mL_law) 834 = .ok (.iconst 1, 1) := by decide +kernel
theorem qL_law_835 : decode (mB mL_law) 835 = .ok (.iadd, 1) := by decide +kernel
theorem qL_law_836 : decode (mB mL_law) 836 = .ok (.iaload, 1) := by decide +kernel
theorem qL_law_837 : decode (mB mL_law) 837 = .ok (.invokevirtual 224, 3) := by decide +kernel
theorem qL_law_840 : decode (mB mL_law) 840 = .ok (.istore 6, 2) := by decide +kernel
theorem qL_law_842 : decode (mB mL_law) 842 = .ok (.aload_n 2, 1) := by decide +kernel
theorem qL_law_843 : decode (mB mL_law) 843 = .ok (.invokevirtual 180, 3) := by decide +kernel
theorem qL_law_846 : decode (mB mL_law) 846 = .ok (.iload 5, 2) := by decide +kernel
theorem qL_law_848 : decode (mB mL_law) 848 = .ok (.if_icmp .eq 5, 3) := by decide +kernel
theorem qL_law_851 : decode (mB mL_law) 851 = .ok (.iconst 0, 1) := by decide +kernel
theorem qL_law_852 : decode (mB mL_law) 852 = .ok (.ireturn, 1) := by decide +kernel
theorem qL_law_853 : decode (mB mL_law) 853 = .ok (.iload 5, 2) := by decide +kernel
theorem qL_law_855 : decode (mB mL_law) 855 = .ok (.ifCond .ne 15, 3) := by decide +kernel
theorem qL_law_858 : decode (mB mL_law) 858 = .ok (.aload_n 3, 1) := by decide +kernel
theorem qL_law_859 : decode (mB mL_law) 859 = .ok (.iconst 0, 1) := by decide +kernel
theorem qL_law_860 : decode (mB mL_law) 860 = .ok (.laload, 1) := by decide +kernel
theorem qL_law_861 : decode (mB mL_law) 861 = .ok (.iload 6, 2) := by decide +kernel
theorem qL_law_863 : decode (mB mL_law) 863 = .ok (.i2l, 1) := by decide +kernel
theorem qL_law_864 : decode (mB mL_law) 864 = .ok (.lcmp, 1) := by decide +kernel
theorem qL_law_865 : decode (mB mL_law) 865 = .ok (.ifCond .eq 5, 3) := by decide +kernel
theorem qL_law_868 : decode (mB mL_law) 868 = .ok (.iconst 0, 1) := by decide +kernel
theorem qL_law_869 : decode (mB mL_law) 869 = .ok (.ireturn, 1) := by decide +kernel
theorem qL_law_870 : decode (mB mL_law) 870 = .ok (.goto 2687, 3) := by decide +kernel
theorem qL_law_873 : decode (mB mL_law) 873 = .ok (.aload_n 1, 1) := by decide +kernel
theorem qL_law_874 : decode (mB mL_law) 874 = .ok (.aload_n 0, 1) := by decide +kernel
theorem qL_law_875 : decode (mB mL_law) 875 = .ok (.iload 4, 2) := by decide +kernel
theorem qL_law_877 : decode (mB mL_law) 877 = .ok (.iconst 1, 1) := by decide +kernel
theorem qL_law_878 : decode (mB mL_law) 878 = .ok (.iadd, 1) := by decide +kernel
theorem qL_law_879 : decode (mB mL_law) 879 = .ok (.iaload, 1) := by decide +kernel
theorem qL_law_880 : decode (mB mL_law) 880 = .ok (.aload_n 3, 1) := by decide +kernel
theorem qL_law_881 : decode (mB mL_law) 881 = .ok (.invokestatic 225, 3) := by decide +kernel
theorem qL_law_884 : decode (mB mL_law) 884 = .ok (.istore 5, 2) := by decide +kernel
theorem qL_law_886 : decode (mB mL_law) 886 = .ok (.aload_n 2, 1) := by decide +kernel
theorem qL_law_887 : decode (mB mL_law) 887 = .ok (.aload_n 0, 1) := by decide +kernel
theorem qL_law_888 : decode (mB mL_law) 888 = .ok (.iload 4, 2) := by decide +kernel
theorem qL_law_890 : decode (mB mL_law) 890 = .ok (.iconst 1, 1) := by decide +kernel
theorem qL_law_891 : decode (mB mL_law) 891 = .ok (.iadd, 1) := by decide +kernel
theorem qL_law_892 : decode (mB mL_law) 892 = .ok (.iaload, 1) := by decide +kernel
theorem qL_law_893 : decode (mB mL_law) 893 = .ok (.invokevirtual 227, 3) := by decide +kernel
theorem qL_law_896 : decode (mB mL_law) 896 = .ok (.istore 6, 2) := by decide +kernel
theorem qL_law_898 : decode (mB mL_law) 898 = .ok (.aload_n 2, 1) := by decide +kernel
theorem qL_law_899 : decode (mB mL_law) 899 = .ok (.invokevirtual 180, 3) := by decide +kernel
theorem qL_law_902 : decode (mB mL_law) 902 = .ok (.iload 5, 2) := by decide +kernel
theorem qL_law_904 : decode (mB mL_law) 904 = .ok (.if_icmp .eq 5, 3) := by decide +kernel
theorem qL_law_907 : decode (mB mL_law) 907 = .ok (.iconst 0, 1) := by decide +kernel
theorem qL_law_908 : decode (mB mL_law) 908 = .ok (.ireturn, 1) := by decide +kernel
theorem qL_law_909 : decode (mB mL_law) 909 = .ok (.iload 5, 2) := by decide +kernel
theorem qL_law_911 : decode (mB mL_law) 911 = .ok (.ifCond .ne 15, 3) := by decide +kernel
theorem qL_law_914 : decode (mB mL_law) 914 = .ok (.aload_n 3, 1) := by decide +kernel
theorem qL_law_915 : decode (mB mL_law) 915 = .ok (.iconst 0, 1) := by decide +kernel
theorem qL_law_916 : decode (mB mL_law) 916 = .ok (.laload, 1) := by decide +kernel
theorem qL_law_917 : decode (mB mL_law) 917 = .ok (.iload 6, 2) := by decide +kernel
theorem qL_law_919 : decode (mB mL_law) 919 = .ok (.i2l, 1) := by decide +kernel
theorem qL_law_920 : decode (mB mL_law) 920 = .ok (.lcmp, 1) := by decide +kernel
theorem qL_law_921 : decode (mB mL_law) 921 = .ok (.ifCond .eq 5, 3) := by decide +kernel
theorem qL_law_924 : decode (mB mL_law) 924 = .ok (.iconst 0, 1) := by decide +kernel
theorem qL_law_925 : decode (mB mL_law) 925 = .ok (.ireturn, 1) := by decide +kernel
theorem qL_law_926 : decode (mB mL_law) 926 = .ok (.goto 2631, 3) := by decide +kernel
theorem qL_law_929 : decode (mB mL_law) 929 = .ok (.aload_n 1, 1) := by decide +kernel
theorem qL_law_930 : decode (mB mL_law) 930 = .ok (.aload_n 0, 1) := by decide +kernel
theorem qL_law_931 : decode (mB mL_law) 931 = .ok (.iload 4, 2) := by decide +kernel
theorem qL_law_933 : decode (mB mL_law) 933 = .ok (.iconst 1, 1) := by decide +kernel
theorem qL_law_934 : decode (mB mL_law) 934 = .ok (.iadd, 1) := by decide +kernel
theorem qL_law_935 : decode (mB mL_law) 935 = .ok (.iaload, 1) := by decide +kernel
theorem qL_law_936 : decode (mB mL_law) 936 = .ok (.aload_n 3, 1) := by decide +kernel
theorem qL_law_937 : decode (mB mL_law) 937 = .ok (.invokestatic 228, 3) := by decide +kernel
theorem qL_law_940 : decode (mB mL_law) 940 = .ok (.istore 5, 2) := by decide +kernel
theorem qL_law_942 : decode (mB mL_law) 942 = .ok (.aload_n 2, 1) := by decide +kernel
theorem qL_law_943 : decode (mB mL_law) 943 = .ok (.aload_n 0, 1) := by decide +kernel
theorem qL_law_944 : decode (mB mL_law) 944 = .ok (.iload 4, 2) := by decide +kernel
theorem qL_law_946 : decode (mB mL_law) 946 = .ok (.iconst 1, 1) := by decide +kernel
theorem qL_law_947 : decode (mB mL_law) 947 = .ok (.iadd, 1) := by decide +kernel
theorem qL_law_948 : decode (mB mL_law) 948 = .ok (.iaload, 1) := by decide +kernel
theorem qL_law_949 : decode (mB mL_law) 949 = .ok (.invokevirtual 230, 3) := by decide +kernel
theorem qL_law_952 : decode (mB mL_law) 952 = .ok (.istore 6, 2) := by decide +kernel
theorem qL_law_954 : decode (mB mL_law) 954 = .ok (.aload_n 2, 1) := by decide +kernel
theorem qL_law_955 : decode (mB mL_law) 955 = .ok (.invokevirtual 180, 3) := by decide +kernel
theorem qL_law_958 : decode (mB mL_law) 958 = .ok (.iload 5, 2) := by decide +kernel
theorem qL_law_960 : decode (mB mL_law) 960 = .ok (.if_icmp .eq 5, 3) := by decide +kernel
theorem qL_law_963 : decode (mB mL_law) 963 = .ok (.iconst 0, 1) := by decide +kernel
theorem qL_law_964 : decode (mB mL_law) 964 = .ok (.ireturn, 1) := by decide +kernel
theorem qL_law_965 : decode (mB mL_law) 965 = .ok (.iload 5, 2) := by decide +kernel
theorem qL_law_967 : decode (mB mL_law) 967 = .ok (.ifCond .ne 15, 3) := by decide +kernel
theorem qL_law_970 : decode (mB mL_law) 970 = .ok (.aload_n 3, 1) := by decide +kernel
theorem qL_law_971 : decode (mB mL_law) 971 = .ok (.iconst 0, 1) := by decide +kernel
theorem qL_law_972 : decode (mB mL_law) 972 = .ok (.laload, 1) := by decide +kernel
theorem qL_law_973 : decode (mB mL_law) 973 = .ok (.iload 6, 2) := by decide +kernel
theorem qL_law_975 : decode (mB mL_law) 975 = .ok (.i2l, 1) := by decide +kernel
theorem qL_law_976 : decode (mB mL_law) 976 = .ok (.lcmp, 1) := by decide +kernel
theorem qL_law_977 : decode (mB mL_law) 977 = .ok (.ifCond .eq 5, 3) := by decide +kernel
theorem qL_law_980 : decode (mB mL_law) 980 = .ok (.iconst 0, 1) := by decide +kernel
theorem qL_law_981 : decode (mB mL_law) 981 = .ok (.ireturn, 1) := by decide +kernel
theorem qL_law_982 : decode (mB mL_law) 982 = .ok (.goto 2575, 3) := by decide +kernel
theorem qL_law_985 : decode (mB mL_law) 985 = .ok (.aload_n 1, 1) := by decide +kernel
theorem qL_law_986 : decode (mB mL_law) 986 = .ok (.aload_n 0, 1) := by decide +kernel
theorem qL_law_987 : decode (mB mL_law) 987 = .ok (.iload 4, 2) := by decide +kernel
theorem qL_law_989 : decode (mB mL_law) 989 = .ok (.iconst 1, 1) := by decide +kernel
theorem qL_law_990 : decode (mB mL_law) 990 = .ok (.iadd, 1) := by decide +kernel
theorem qL_law_991 : decode (mB mL_law) 991 = .ok (.iaload, 1) := by decide +kernel
theorem qL_law_992 : decode (mB mL_law) 992 = .ok (.aload_n 3, 1) := by decide +kernel
theorem qL_law_993 : decode (mB mL_law) 993 = .ok (.invokestatic 231, 3) := by decide +kernel
theorem qL_law_996 : decode (mB mL_law) 996 = .ok (.istore 5, 2) := by decide +kernel
theorem qL_law_998 : decode (mB mL_law) 998 = .ok (.aload_n 2, 1) := by decide +kernel
theorem qL_law_999 : decode (mB mL_law) 999 = .ok (.aload_n 0, 1) := by decide +kernel
theorem qL_law_1000 : decode (mB mL_law) 1000 = .ok (.iload 4, 2) := by decide +kernel
theorem qL_law_1002 : decode (mB mL_law) 1002 = .ok (.iconst 1, 1) := by decide +kernel
theorem qL_law_1003 : decode (mB mL_law) 1003 = .ok (.iadd, 1) := by decide +kernel
theorem qL_law_1004 : decode (mB mL_law) 1004 = .ok (.iaload, 1) := by decide +kernel
theorem qL_law_1005 : decode (mB mL_law) 1005 = .ok (.invokevirtual 233, 3) := by decide +kernel
theorem qL_law_1008 : decode (mB mL_law) 1008 = .ok (.istore 6, 2) := by decide +kernel
theorem qL_law_1010 : decode (mB mL_law) 1010 = .ok (.aload_n 2, 1) := by decide +kernel
theorem qL_law_1011 : decode (mB mL_law) 1011 = .ok (.invokevirtual 180, 3) := by decide +kernel
theorem qL_law_1014 : decode (mB mL_law) 1014 = .ok (.iload 5, 2) := by decide +kernel
theorem qL_law_1016 : decode (mB mL_law) 1016 = .ok (.if_icmp .eq 5, 3) := by decide +kernel
theorem qL_law_1019 : decode (mB mL_law) 1019 = .ok (.iconst 0, 1) := by decide +kernel
theorem qL_law_1020 : decode (mB mL_law) 1020 = .ok (.ireturn, 1) := by decide +kernel
theorem qL_law_1021 : decode (mB mL_law) 1021 = .ok (.iload 5, 2) := by decide +kernel
theorem qL_law_1023 : decode (mB mL_law) 1023 = .ok (.ifCond .ne 22, 3) := by decide +kernel
theorem qL_law_1026 : decode (mB mL_law) 1026 = .ok (.aload_n 3, 1) := by decide +kernel
theorem qL_law_1027 : decode (mB mL_law) 1027 = .ok (.iconst 0, 1) := by decide +kernel
theorem qL_law_1028 : decode (mB mL_law) 1028 = .ok (.laload, 1) := by decide +kernel
theorem qL_law_1029 : decode (mB mL_law) 1029 = .ok (.iload 6, 2) := by decide +kernel
theorem qL_law_1031 : decode (mB mL_law) 1031 = .ok (.ifCond .eq 7, 3) := by decide +kernel
theorem qL_law_1034 : decode (mB mL_law) 1034 = .ok (.lconst 1, 1) := by decide +kernel
theorem qL_law_1035 : decode (mB mL_law) 1035 = .ok (.goto 4, 3) := by decide +kernel
theorem qL_law_1038 : decode (mB mL_law) 1038 = .ok (.lconst 0, 1) := by decide +kernel
theorem qL_law_1039 : decode (mB mL_law) 1039 = .ok (.lcmp, 1) := by decide +kernel
theorem qL_law_1040 : decode (mB mL_law) 1040 = .ok (.ifCond .eq 5, 3) := by decide +kernel
theorem qL_law_1043 : decode (mB mL_law) 1043 = .ok (.iconst 0, 1) := by decide +kernel
theorem qL_law_1044 : decode (mB mL_law) 1044 = .ok (.ireturn, 1) := by decide +kernel
theorem qL_law_1045 : decode (mB mL_law) 1045 = .ok (.goto 2512, 3) := by decide +kernel
theorem qL_law_1048 : decode (mB mL_law) 1048 = .ok (.aload_n 1, 1) := by decide +kernel
theorem qL_law_1049 : decode (mB mL_law) 1049 = .ok (.aload_n 0, 1) := by decide +kernel
theorem qL_law_1050 : decode (mB mL_law) 1050 = .ok (.iload 4, 2) := by decide +kernel
theorem qL_law_1052 : decode (mB mL_law) 1052 = .ok (.iconst 1, 1) := by decide +kernel
theorem qL_law_1053 : decode (mB mL_law) 1053 = .ok (.iadd, 1) := by decide +kernel
theorem qL_law_1054 : decode (mB mL_law) 1054 = .ok (.iaload, 1) := by decide +kernel
theorem qL_law_1055 : decode (mB mL_law) 1055 = .ok (.aload_n 3, 1) := by decide +kernel
theorem qL_law_1056 : decode (mB mL_law) 1056 = .ok (.invokestatic 234, 3) := by decide +kernel
theorem qL_law_1059 : decode (mB mL_law) 1059 = .ok (.istore 5, 2) := by decide +kernel
theorem qL_law_1061 : decode (mB mL_law) 1061 = .ok (.aload_n 2, 1) := by decide +kernel
theorem qL_law_1062 : decode (mB mL_law) 1062 = .ok (.aload_n 0, 1) := by decide +kernel
theorem qL_law_1063 : decode (mB mL_law) 1063 = .ok (.iload 4, 2) := by decide +kernel
theorem qL_law_1065 : decode (mB mL_law) 1065 = .ok (.iconst 1, 1) := by decide +kernel
theorem qL_law_1066 : decode (mB mL_law) 1066 = .ok (.iadd, 1) := by decide +kernel
theorem qL_law_1067 : decode (mB mL_law) 1067 = .ok (.iaload, 1) := by decide +kernel
theorem qL_law_1068 : decode (mB mL_law) 1068 = .ok (.invokevirtual 236, 3) := by decide +kernel
theorem qL_law_1071 : decode (mB mL_law) 1071 = .ok (.istore 6, 2) := by decide +kernel
theorem qL_law_1073 : decode (mB mL_law) 1073 = .ok (.aload_n 2, 1) := by decide +kernel
theorem qL_law_1074 : decode (mB mL_law) 1074 = .ok (.invokevirtual 180, 3) := by decide +kernel
theorem qL_law_1077 : decode (mB mL_law) 1077 = .ok (.iload 5, 2) := by decide +kernel
theorem qL_law_1079 : decode (mB mL_law) 1079 = .ok (.if_icmp .eq 5, 3) := by decide +kernel
theorem qL_law_1082 : decode (mB mL_law) 1082 = .ok (.iconst 0, 1) := by decide +kernel
theorem qL_law_1083 : decode (mB mL_law) 1083 = .ok (.ireturn, 1) := by decide +kernel
theorem qL_law_1084 : decode (mB mL_law) 1084 = .ok (.iload 5, 2) := by decide +kernel
theorem qL_law_1086 : decode (mB mL_law) 1086 = .ok (.ifCond .ne 22, 3) := by decide +kernel
theorem qL_law_1089 : decode (mB mL_law) 1089 = .ok (.aload_n 3, 1) := by decide +kernel
theorem qL_law_1090 : decode (mB mL_law) 1090 = .ok (.iconst 0, 1) := by decide +kernel
theorem qL_law_1091 : decode (mB mL_law) 1091 = .ok (.laload, 1) := by decide +kernel
theorem qL_law_1092 : decode (mB mL_law) 1092 = .ok (.iload 6, 2) := by decide +kernel
theorem qL_law_1094 : decode (mB mL_law) 1094 = .ok (.ifCond .eq 7, 3) := by decide +kernel
theorem qL_law_1097 : decode (mB mL_law) 1097 = .ok (.lconst 1, 1) := by decide +kernel
theorem qL_law_1098 : decode (mB mL_law) 1098 = .ok (.goto 4, 3) := by decide +kernel
theorem qL_law_1101 : decode (mB mL_law) 1101 = .ok (.lconst 0, 1) := by decide +kernel
theorem qL_law_1102 : decode (mB mL_law) 1102 = .ok (.lcmp, 1) := by decide +kernel
theorem qL_law_1103 : decode (mB mL_law) 1103 = .ok (.ifCond .eq 5, 3) := by decide +kernel
theorem qL_law_1106 : decode (mB mL_law) 1106 = .ok (.iconst 0, 1) := by decide +kernel
theorem qL_law_1107 : decode (mB mL_law) 1107 = .ok (.ireturn, 1) := by decide +kernel
theorem qL_law_1108 : decode (mB mL_law) 1108 = .ok (.goto 2449, 3) := by decide +kernel
theorem qL_law_1111 : decode (mB mL_law) 1111 = .ok (.aload_n 1, 1) := by decide +kernel
theorem qL_law_1112 : decode (mB mL_law) 1112 = .ok (.aload_n 0, 1) := by decide +kernel
theorem qL_law_1113 : decode (mB mL_law) 1113 = .ok (.iload 4, 2) := by decide +kernel
theorem qL_law_1115 : decode (mB mL_law) 1115 = .ok (.iconst 1, 1) := by decide +kernel
theorem qL_law_1116 : decode (mB mL_law) 1116 = .ok (.iadd, 1) := by decide +kernel
theorem qL_law_1117 : decode (mB mL_law) 1117 = .ok (.iaload, 1) := by decide +kernel
theorem qL_law_1118 : decode (mB mL_law) 1118 = .ok (.aload_n 3, 1) := by decide +kernel
theorem qL_law_1119 : decode (mB mL_law) 1119 = .ok (.invokestatic 237, 3) := by decide +kernel
theorem qL_law_1122 : decode (mB mL_law) 1122 = .ok (.istore 5, 2) := by decide +kernel
theorem qL_law_1124 : decode (mB mL_law) 1124 = .ok (.aload_n 2, 1) := by decide +kernel
theorem qL_law_1125 : decode (mB mL_law) 1125 = .ok (.aload_n 0, 1) := by decide +kernel
theorem qL_law_1126 : decode (mB mL_law) 1126 = .ok (.iload 4, 2) := by decide +kernel
theorem qL_law_1128 : decode (mB mL_law) 1128 = .ok (.iconst 1, 1) := by decide +kernel
theorem qL_law_1129 : decode (mB mL_law) 1129 = .ok (.iadd, 1) := by decide +kernel
theorem qL_law_1130 : decode (mB mL_law) 1130 = .ok (.iaload, 1) := by decide +kernel
theorem qL_law_1131 : decode (mB mL_law) 1131 = .ok (.invokevirtual 239, 3) := by decide +kernel
theorem qL_law_1134 : decode (mB mL_law) 1134 = .ok (.istore 6, 2) := by decide +kernel
theorem qL_law_1136 : decode (mB mL_law) 1136 = .ok (.aload_n 2, 1) := by decide +kernel
theorem qL_law_1137 : decode (mB mL_law) 1137 = .ok (.invokevirtual 180, 3) := by decide +kernel
theorem qL_law_1140 : decode (mB mL_law) 1140 = .ok (.iload 5, 2) := by decide +kernel
theorem qL_law_1142 : decode (mB mL_law) 1142 = .ok (.if_icmp .eq 5, 3) := by decide +kernel
theorem qL_law_1145 : decode (mB mL_law) 1145 = .ok (.iconst 0, 1) := by decide +kernel
theorem qL_law_1146 : decode (mB mL_law) 1146 = .ok (.ireturn, 1) := by decide +kernel
theorem qL_law_1147 : decode (mB mL_law) 1147 = .ok (.iload 5, 2) := by decide +kernel
theorem qL_law_1149 : decode (mB mL_law) 1149 = .ok (.ifCond .ne 15, 3) := by decide +kernel
theorem qL_law_1152 : decode (mB mL_law) 1152 = .ok (.aload_n 3, 1) := by decide +kernel
theorem qL_law_1153 : decode (mB mL_law) 1153 = .ok (.iconst 0, 1) := by decide +kernel
theorem qL_law_1154 : decode (mB mL_law) 1154 = .ok (.laload, 1) := by decide +kernel
theorem qL_law_1155 : decode (mB mL_law) 1155 = .ok (.iload 6, 2) := by decide +kernel
theorem qL_law_1157 : decode (mB mL_law) 1157 = .ok (.i2l, 1) := by decide +kernel
theorem qL_law_1158 : decode (mB mL_law) 1158 = .ok (.lcmp, 1) := by decide +kernel
theorem qL_law_1159 : decode (mB mL_law) 1159 = .ok (.ifCond .eq 5, 3) := by decide +kernel
theorem qL_law_1162 : decode (mB mL_law) 1162 = .ok (.iconst 0, 1) := by decide +kernel
theorem qL_law_1163 : decode (mB mL_law) 1163 = .ok (.ireturn, 1) := by decide +kernel
theorem qL_law_1164 : decode (mB mL_law) 1164 = .ok (.goto 2393, 3) := by decide +kernel
theorem qL_law_1167 : decode (mB mL_law) 1167 = .ok (.aload_n 1, 1) := by decide +kernel
theorem qL_law_1168 : decode (mB mL_law) 1168 = .ok (.aload_n 0, 1) := by decide +kernel
theorem qL_law_1169 : decode (mB mL_law) 1169 = .ok (.iload 4, 2) := by decide +kernel
theorem qL_law_1171 : decode (mB mL_law) 1171 = .ok (.iconst 1, 1) := by decide +kernel
theorem qL_law_1172 : decode (mB mL_law) 1172 = .ok (.iadd, 1) := by decide +kernel
theorem qL_law_1173 : decode (mB mL_law) 1173 = .ok (.iaload, 1) := by decide +kernel
theorem qL_law_1174 : decode (mB mL_law) 1174 = .ok (.aload_n 3, 1) := by decide +kernel
theorem qL_law_1175 : decode (mB mL_law) 1175 = .ok (.invokestatic 240, 3) := by decide +kernel
theorem qL_law_1178 : decode (mB mL_law) 1178 = .ok (.istore 5, 2) := by decide +kernel
theorem qL_law_1180 : decode (mB mL_law) 1180 = .ok (.aload_n 2, 1) := by decide +kernel
theorem qL_law_1181 : decode (mB mL_law) 1181 = .ok (.aload_n 0, 1) := by decide +kernel
theorem qL_law_1182 : decode (mB mL_law) 1182 = .ok (.iload 4, 2) := by decide +kernel
theorem qL_law_1184 : decode (mB mL_law) 1184 = .ok (.iconst 1, 1) := by decide +kernel
theorem qL_law_1185 : decode (mB mL_law) 1185 = .ok (.iadd, 1) := by decide +kernel
theorem qL_law_1186 : decode (mB mL_law) 1186 = .ok (.iaload, 1) := by decide +kernel
theorem qL_law_1187 : decode (mB mL_law) 1187 = .ok (.invokevirtual 242, 3) := by decide +kernel
theorem qL_law_1190 : decode (mB mL_law) 1190 = .ok (.istore 6, 2) := by decide +kernel
theorem qL_law_1192 : decode (mB mL_law) 1192 = .ok (.aload_n 2, 1) := by decide +kernel
theorem qL_law_1193 : decode (mB mL_law) 1193 = .ok (.invokevirtual 180, 3) := by decide +kernel
theorem qL_law_1196 : decode (mB mL_law) 1196 = .ok (.iload 5, 2) := by decide +kernel
theorem qL_law_1198 : decode (mB mL_law) 1198 = .ok (.if_icmp .eq 5, 3) := by decide +kernel
theorem qL_law_1201 : decode (mB mL_law) 1201 = .ok (.iconst 0, 1) := by decide +kernel
theorem qL_law_1202 : decode (mB mL_law) 1202 = .ok (.ireturn, 1) := by decide +kernel
theorem qL_law_1203 : decode (mB mL_law) 1203 = .ok (.iload 5, 2) := by decide +kernel
theorem qL_law_1205 : decode (mB mL_law) 1205 = .ok (.ifCond .ne 15, 3) := by decide +kernel
theorem qL_law_1208 : decode (mB mL_law) 1208 = .ok (.aload_n 3, 1) := by decide +kernel
theorem qL_law_1209 : decode (mB mL_law) 1209 = .ok (.iconst 0, 1) := by decide +kernel
theorem qL_law_1210 : decode (mB mL_law) 1210 = .ok (.laload, 1) := by decide +kernel
theorem qL_law_1211 : decode (mB mL_law) 1211 = .ok (.iload 6, 2) := by decide +kernel
theorem qL_law_1213 : decode (mB mL_law) 1213 = .ok (.i2l, 1) := by decide +kernel
theorem qL_law_1214 : decode (mB mL_law) 1214 = .ok (.lcmp, 1) := by decide +kernel
theorem qL_law_1215 : decode (mB mL_law) 1215 = .ok (.ifCond .eq 5, 3) := by decide +kernel
theorem qL_law_1218 : decode (mB mL_law) 1218 = .ok (.iconst 0, 1) := by decide +kernel
theorem qL_law_1219 : decode (mB mL_law) 1219 = .ok (.ireturn, 1) := by decide +kernel
theorem qL_law_1220 : decode (mB mL_law) 1220 = .ok (.goto 2337, 3) := by decide +kernel
theorem qL_law_1223 : decode (mB mL_law) 1223 = .ok (.aload_n 1, 1) := by decide +kernel
theorem qL_law_1224 : decode (mB mL_law) 1224 = .ok (.aload_n 0, 1) := by decide +kernel
theorem qL_law_1225 : decode (mB mL_law) 1225 = .ok (.iload 4, 2) := by decide +kernel
theorem qL_law_1227 : decode (mB mL_law) 1227 = .ok (.iconst 1, 1) := by decide +kernel
theorem qL_law_1228 : decode (mB mL_law) 1228 = .ok (.iadd, 1) := by decide +kernel
theorem qL_law_1229 : decode (mB mL_law) 1229 = .ok (.iaload, 1) := by decide +kernel
theorem qL_law_1230 : decode (mB mL_law) 1230 = .ok (.aload_n 0, 1) := by decide +kernel
theorem qL_law_1231 : decode (mB mL_law) 1231 = .ok (.iload 4, 2) := by decide +kernel
theorem qL_law_1233 : decode (mB mL_law) 1233 = .ok (.iconst 2, 1) := by decide +kernel
theorem qL_law_1234 : decode (mB mL_law) 1234 = .ok (.iadd, 1) := by decide +kernel
theorem qL_law_1235 : decode (mB mL_law) 1235 = .ok (.iaload, 1) := by decide +kernel
theorem qL_law_1236 : decode (mB mL_law) 1236 = .ok (.aload_n 3, 1) := by decide +kernel
theorem qL_law_1237 : decode (mB mL_law) 1237 = .ok (.invokestatic 243, 3) := by decide +kernel
theorem qL_law_1240 : decode (mB mL_law) 1240 = .ok (.istore 5, 2) := by decide +kernel
theorem qL_law_1242 : decode (mB mL_law) 1242 = .ok (.aload_n 2, 1) := by decide +kernel
theorem qL_law_1243 : decode (mB mL_law) 1243 = .ok (.aload_n 0, 1) := by decide +kernel
theorem qL_law_1244 : decode (mB mL_law) 1244 = .ok (.iload 4, 2) := by decide +kernel
theorem qL_law_1246 : decode (mB mL_law) 1246 = .ok (.iconst 1, 1) := by decide +kernel
theorem qL_law_1247 : decode (mB mL_law) 1247 = .ok (.iadd, 1) := by decide +kernel
theorem qL_law_1248 : decode (mB mL_law) 1248 = .ok (.iaload, 1) := by decide +kernel
theorem qL_law_1249 : decode (mB mL_law) 1249 = .ok (.aload_n 0, 1) := by decide +kernel
theorem qL_law_1250 : decode (mB mL_law) 1250 = .ok (.iload 4, 2) := by decide +kernel
theorem qL_law_1252 : decode (mB mL_law) 1252 = .ok (.iconst 2, 1) := by decide +kernel
theorem qL_law_1253 : decode (mB mL_law) 1253 = .ok (.iadd, 1) := by decide +kernel
theorem qL_law_1254 : decode (mB mL_law) 1254 = .ok (.iaload, 1) := by decide +kernel
theorem qL_law_1255 : decode (mB mL_law) 1255 = .ok (.invokevirtual 246, 3) := by decide +kernel
theorem qL_law_1258 : decode (mB mL_law) 1258 = .ok (.istore 6, 2) := by decide +kernel
theorem qL_law_1260 : decode (mB mL_law) 1260 = .ok (.aload_n 2, 1) := by decide +kernel
theorem qL_law_1261 : decode (mB mL_law) 1261 = .ok (.invokevirtual 180, 3) := by decide +kernel
theorem qL_law_1264 : decode (mB mL_law) 1264 = .ok (.iload 5, 2) := by decide +kernel
theorem qL_law_1266 : decode (mB mL_law) 1266 = .ok (.if_icmp .eq 5, 3) := by decide +kernel
theorem qL_law_1269 : decode (mB mL_law) 1269 = .ok (.iconst 0, 1) := by decide +kernel
theorem qL_law_1270 : decode (mB mL_law) 1270 = .ok (.ireturn, 1) := by decide +kernel
theorem qL_law_1271 : decode (mB mL_law) 1271 = .ok (.iload 5, 2) := by decide +kernel
theorem qL_law_1273 : decode (mB mL_law) 1273 = .ok (.ifCond .ne 15, 3) := by decide +kernel
theorem qL_law_1276 : decode (mB mL_law) 1276 = .ok (.aload_n 3, 1) := by decide +kernel
theorem qL_law_1277 : decode (mB mL_law) 1277 = .ok (.iconst 0, 1) := by decide +kernel
theorem qL_law_1278 : decode (mB mL_law) 1278 = .ok (.laload, 1) := by decide +kernel
theorem qL_law_1279 : decode (mB mL_law) 1279 = .ok (.iload 6, 2) := by decide +kernel
theorem qL_law_1281 : decode (mB mL_law) 1281 = .ok (.i2l, 1) := by decide +kernel
theorem qL_law_1282 : decode (mB mL_law) 1282 = .ok (.lcmp, 1) := by decide +kernel
theorem qL_law_1283 : decode (mB mL_law) 1283 = .ok (.ifCond .eq 5, 3) := by decide +kernel
theorem qL_law_1286 : decode (mB mL_law) 1286 = .ok (.iconst 0, 1) := by decide +kernel
theorem qL_law_1287 : decode (mB mL_law) 1287 = .ok (.ireturn, 1) := by decide +kernel
theorem qL_law_1288 : decode (mB mL_law) 1288 = .ok (.goto 2269, 3) := by decide +kernel
theorem qL_law_1291 : decode (mB mL_law) 1291 = .ok (.aload_n 1, 1) := by decide +kernel
theorem qL_law_1292 : decode (mB mL_law) 1292 = .ok (.aload_n 0, 1) := by decide +kernel
theorem qL_law_1293 : decode (mB mL_law) 1293 = .ok (.iload 4, 2) := by decide +kernel
theorem qL_law_1295 : decode (mB mL_law) 1295 = .ok (.iconst 1, 1) := by decide +kernel
theorem qL_law_1296 : decode (mB mL_law) 1296 = .ok (.iadd, 1) := by decide +kernel
theorem qL_law_1297 : decode (mB mL_law) 1297 = .ok (.iaload, 1) := by decide +kernel
theorem qL_law_1298 : decode (mB mL_law) 1298 = .ok (.aload_n 3, 1) := by decide +kernel
theorem qL_law_1299 : decode (mB mL_law) 1299 = .ok (.invokestatic 247, 3) := by decide +kernel
theorem qL_law_1302 : decode (mB mL_law) 1302 = .ok (.istore 5, 2) := by decide +kernel
theorem qL_law_1304 : decode (mB mL_law) 1304 = .ok (.aload_n 2, 1) := by decide +kernel
theorem qL_law_1305 : decode (mB mL_law) 1305 = .ok (.aload_n 0, 1) := by decide +kernel
theorem qL_law_1306 : decode (mB mL_law) 1306 = .ok (.iload 4, 2) := by decide +kernel
theorem qL_law_1308 : decode (mB mL_law) 1308 = .ok (.iconst 1, 1) := by decide +kernel
theorem qL_law_1309 : decode (mB mL_law) 1309 = .ok (.iadd, 1) := by decide +kernel
theorem qL_law_1310 : decode (mB mL_law) 1310 = .ok (.iaload, 1) := by decide +kernel
theorem qL_law_1311 : decode (mB mL_law) 1311 = .ok (.invokevirtual 249, 3) := by decide +kernel
theorem qL_law_1314 : decode (mB mL_law) 1314 = .ok (.istore 6, 2) := by decide +kernel
theorem qL_law_1316 : decode (mB mL_law) 1316 = .ok (.aload_n 2, 1) := by decide +kernel
theorem qL_law_1317 : decode (mB mL_law) 1317 = .ok (.invokevirtual 180, 3) := by decide +kernel
theorem qL_law_1320 : decode (mB mL_law) 1320 = .ok (.iload 5, 2) := by decide +kernel
theorem qL_law_1322 : decode (mB mL_law) 1322 = .ok (.if_icmp .eq 5, 3) := by decide +kernel
theorem qL_law_1325 : decode (mB mL_law) 1325 = .ok (.iconst 0, 1) := by decide +kernel
theorem qL_law_1326 : decode (mB mL_law) 1326 = .ok (.ireturn, 1) := by decide +kernel
theorem qL_law_1327 : decode (mB mL_law) 1327 = .ok (.iload 5, 2) := by decide +kernel
theorem qL_law_1329 : decode (mB mL_law) 1329 = .ok (.ifCond .ne 15, 3) := by decide +kernel
theorem qL_law_1332 : decode (mB mL_law) 1332 = .ok (.aload_n 3, 1) := by decide +kernel
theorem qL_law_1333 : decode (mB mL_law) 1333 = .ok (.iconst 0, 1) := by decide +kernel
theorem qL_law_1334 : decode (mB mL_law) 1334 = .ok (.laload, 1) := by decide +kernel
theorem qL_law_1335 : decode (mB mL_law) 1335 = .ok (.iload 6, 2) := by decide +kernel
theorem qL_law_1337 : decode (mB mL_law) 1337 = .ok (.i2l, 1) := by decide +kernel
theorem qL_law_1338 : decode (mB mL_law) 1338 = .ok (.lcmp, 1) := by decide +kernel
theorem qL_law_1339 : decode (mB mL_law) 1339 = .ok (.ifCond .eq 5, 3) := by decide +kernel
theorem qL_law_1342 : decode (mB mL_law) 1342 = .ok (.iconst 0, 1) := by decide +kernel
theorem qL_law_1343 : decode (mB mL_law) 1343 = .ok (.ireturn, 1) := by decide +kernel
theorem qL_law_1344 : decode (mB mL_law) 1344 = .ok (.goto 2213, 3) := by decide +kernel
theorem qL_law_1347 : decode (mB mL_law) 1347 = .ok (.aload_n 1, 1) := by decide +kernel
theorem qL_law_1348 : decode (mB mL_law) 1348 = .ok (.invokevirtual 250, 3) := by decide +kernel
theorem qL_law_1351 : decode (mB mL_law) 1351 = .ok (.aload_n 2, 1) := by decide +kernel
theorem qL_law_1352 : decode (mB mL_law) 1352 = .ok (.invokevirtual 253, 3) := by decide +kernel
theorem qL_law_1355 : decode (mB mL_law) 1355 = .ok (.if_icmp .eq 2202, 3) := by decide +kernel
theorem qL_law_1358 : decode (mB mL_law) 1358 = .ok (.iconst 0, 1) := by decide +kernel
theorem qL_law_1359 : decode (mB mL_law) 1359 = .ok (.ireturn, 1) := by decide +kernel
theorem qL_law_1360 : decode (mB mL_law) 1360 = .ok (.aload_n 1, 1) := by decide +kernel
theorem qL_law_1361 : decode (mB mL_law) 1361 = .ok (.invokevirtual 254, 3) := by decide +kernel
theorem qL_law_1364 : decode (mB mL_law) 1364 = .ok (.aload_n 2, 1) := by decide +kernel
theorem qL_law_1365 : decode (mB mL_law) 1365 = .ok (.invokevirtual 257, 3) := by decide +kernel
theorem qL_law_1368 : decode (mB mL_law) 1368 = .ok (.if_icmp .eq 2189, 3) := by decide +kernel
theorem qL_law_1371 : decode (mB mL_law) 1371 = .ok (.iconst 0, 1) := by decide +kernel
theorem qL_law_1372 : decode (mB mL_law) 1372 = .ok (.ireturn, 1) := by decide +kernel
theorem qL_law_1373 : decode (mB mL_law) 1373 = .ok (.aload_n 1, 1) := by decide +kernel
theorem qL_law_1374 : decode (mB mL_law) 1374 = .ok (.aload_n 0, 1) := by decide +kernel
theorem qL_law_1375 : decode (mB mL_law) 1375 = .ok (.iload 4, 2) := by decide +kernel
theorem qL_law_1377 : decode (mB mL_law) 1377 = .ok (.iconst 1, 1) := by decide +kernel
theorem qL_law_1378 : decode (mB mL_law) 1378 = .ok (.iadd, 1) := by decide +kernel
theorem qL_law_1379 : decode (mB mL_law) 1379 = .ok (.iaload, 1) := by decide +kernel
theorem qL_law_1380 : decode (mB mL_law) 1380 = .ok (.aload_n 3, 1) := by decide +kernel
theorem qL_law_1381 : decode (mB mL_law) 1381 = .ok (.invokestatic 258, 3) := by decide +kernel
theorem qL_law_1384 : decode (mB mL_law) 1384 = .ok (.istore 5, 2) := by decide +kernel
theorem qL_law_1386 : decode (mB mL_law) 1386 = .ok (.aload_n 2, 1) := by decide +kernel

