theorem dX13_step_832 : decode cX13_step 832 = .ok (.goto 318, 3) := by decide +kernel
theorem dX13_step_835 : decode cX13_step 835 = .ok (.aload_n 0, 1) := by decide +kernel
theorem dX13_step_836 : decode cX13_step 836 = .ok (.iconst 0, 1) := by decide +kernel
theorem dX13_step_837 : decode cX13_step 837 = .ok (.invokevirtual 1072, 3) := by decide +kernel
theorem dX13_step_840 : decode cX13_step 840 = .ok (.goto 310, 3) := by decide +kernel
theorem dX13_step_843 : decode cX13_step 843 = .ok (.aload_n 0, 1) := by decide +kernel
theorem dX13_step_844 : decode cX13_step 844 = .ok (.iload_n 2, 1) := by decide +kernel
theorem dX13_step_845 : decode cX13_step 845 = .ok (.iconst 3, 1) := by decide +kernel
theorem dX13_step_846 : decode cX13_step 846 = .ok (.isub, 1) := by decide +kernel
theorem dX13_step_847 : decode cX13_step 847 = .ok (.invokevirtual 1072, 3) := by decide +kernel
theorem dX13_step_850 : decode cX13_step 850 = .ok (.goto 300, 3) := by decide +kernel
theorem dX13_step_853 : decode cX13_step 853 = .ok (.aload_n 0, 1) := by decide +kernel
theorem dX13_step_854 : decode cX13_step 854 = .ok (.iload 4, 2) := by decide +kernel
theorem dX13_step_856 : decode cX13_step 856 = .ok (.i2b, 1) := by decide +kernel
theorem dX13_step_857 : decode cX13_step 857 = .ok (.invokevirtual 1072, 3) := by decide +kernel
theorem dX13_step_860 : decode cX13_step 860 = .ok (.goto 290, 3) := by decide +kernel
theorem dX13_step_863 : decode cX13_step 863 = .ok (.aload_n 0, 1) := by decide +kernel
theorem dX13_step_864 : decode cX13_step 864 = .ok (.aload_n 0, 1) := by decide +kernel
theorem dX13_step_865 : decode cX13_step 865 = .ok (.iload 4, 2) := by decide +kernel
theorem dX13_step_867 : decode cX13_step 867 = .ok (.invokevirtual 1081, 3) := by decide +kernel
theorem dX13_step_870 : decode cX13_step 870 = .ok (.invokevirtual 1072, 3) := by decide +kernel
theorem dX13_step_873 : decode cX13_step 873 = .ok (.goto 277, 3) := by decide +kernel
theorem dX13_step_876 : decode cX13_step 876 = .ok (.aload_n 0, 1) := by decide +kernel
theorem dX13_step_877 : decode cX13_step 877 = .ok (.aload_n 0, 1) := by decide +kernel
theorem dX13_step_878 : decode cX13_step 878 = .ok (.iload 4, 2) := by decide +kernel
theorem dX13_step_880 : decode cX13_step 880 = .ok (.invokevirtual 1084, 3) := by decide +kernel
theorem dX13_step_883 : decode cX13_step 883 = .ok (.invokevirtual 1072, 3) := by decide +kernel
theorem dX13_step_886 : decode cX13_step 886 = .ok (.goto 264, 3) := by decide +kernel
theorem dX13_step_889 : decode cX13_step 889 = .ok (.aload_n 0, 1) := by decide +kernel
theorem dX13_step_890 : decode cX13_step 890 = .ok (.invokevirtual 1087, 3) := by decide +kernel
theorem dX13_step_893 : decode cX13_step 893 = .ok (.istore 5, 2) := by decide +kernel
theorem dX13_step_895 : decode cX13_step 895 = .ok (.aload_n 0, 1) := by decide +kernel
theorem dX13_step_896 : decode cX13_step 896 = .ok (.getfield 306, 3) := by decide +kernel
theorem dX13_step_899 : decode cX13_step 899 = .ok (.bipush 60, 2) := by decide +kernel
theorem dX13_step_901 : decode cX13_step 901 = .ok (.aload_n 0, 1) := by decide +kernel
theorem dX13_step_902 : decode cX13_step 902 = .ok (.getfield 1058, 3) := by decide +kernel
theorem dX13_step_905 : decode cX13_step 905 = .ok (.iconst 1, 1) := by decide +kernel
theorem dX13_step_906 : decode cX13_step 906 = .ok (.isub, 1) := by decide +kernel
theorem dX13_step_907 : decode cX13_step 907 = .ok (.imul, 1) := by decide +kernel
theorem dX13_step_908 : decode cX13_step 908 = .ok (.iload 4, 2) := by decide +kernel
theorem dX13_step_910 : decode cX13_step 910 = .ok (.iadd, 1) := by decide +kernel
theorem dX13_step_911 : decode cX13_step 911 = .ok (.iload 5, 2) := by decide +kernel
theorem dX13_step_913 : decode cX13_step 913 = .ok (.iastore, 1) := by decide +kernel
theorem dX13_step_914 : decode cX13_step 914 = .ok (.goto 236, 3) := by decide +kernel
theorem dX13_step_917 : decode cX13_step 917 = .ok (.aload_n 0, 1) := by decide +kernel
theorem dX13_step_918 : decode cX13_step 918 = .ok (.invokevirtual 1087, 3) := by decide +kernel
theorem dX13_step_921 : decode cX13_step 921 = .ok (.pop, 1) := by decide +kernel
theorem dX13_step_922 : decode cX13_step 922 = .ok (.goto 228, 3) := by decide +kernel
theorem dX13_step_925 : decode cX13_step 925 = .ok (.aload_n 0, 1) := by decide +kernel
theorem dX13_step_926 : decode cX13_step 926 = .ok (.invokevirtual 1087, 3) := by decide +kernel
theorem dX13_step_929 : decode cX13_step 929 = .ok (.istore 5, 2) := by decide +kernel
theorem dX13_step_931 : decode cX13_step 931 = .ok (.aload_n 0, 1) := by decide +kernel
theorem dX13_step_932 : decode cX13_step 932 = .ok (.iload 5, 2) := by decide +kernel
theorem dX13_step_934 : decode cX13_step 934 = .ok (.invokevirtual 1072, 3) := by decide +kernel
theorem dX13_step_937 : decode cX13_step 937 = .ok (.aload_n 0, 1) := by decide +kernel
theorem dX13_step_938 : decode cX13_step 938 = .ok (.iload 5, 2) := by decide +kernel
theorem dX13_step_940 : decode cX13_step 940 = .ok (.invokevirtual 1072, 3) := by decide +kernel
theorem dX13_step_943 : decode cX13_step 943 = .ok (.goto 207, 3) := by decide +kernel
theorem dX13_step_946 : decode cX13_step 946 = .ok (.aload_n 0, 1) := by decide +kernel
theorem dX13_step_947 : decode cX13_step 947 = .ok (.aload_n 0, 1) := by decide +kernel
theorem dX13_step_948 : decode cX13_step 948 = .ok (.invokevirtual 1087, 3) := by decide +kernel
theorem dX13_step_951 : decode cX13_step 951 = .ok (.ineg, 1) := by decide +kernel
theorem dX13_step_952 : decode cX13_step 952 = .ok (.invokevirtual 1072, 3) := by decide +kernel
theorem dX13_step_955 : decode cX13_step 955 = .ok (.goto 195, 3) := by decide +kernel
theorem dX13_step_958 : decode cX13_step 958 = .ok (.aload_n 0, 1) := by decide +kernel
theorem dX13_step_959 : decode cX13_step 959 = .ok (.iload_n 2, 1) := by decide +kernel
theorem dX13_step_960 : decode cX13_step 960 = .ok (.invokevirtual 1090, 3) := by decide +kernel
theorem dX13_step_963 : decode cX13_step 963 = .ok (.return_, 1) := by decide +kernel
theorem dX13_step_964 : decode cX13_step 964 = .ok (.aload_n 0, 1) := by decide +kernel
theorem dX13_step_965 : decode cX13_step 965 = .ok (.invokevirtual 1087, 3) := by decide +kernel
theorem dX13_step_968 : decode cX13_step 968 = .ok (.istore 6, 2) := by decide +kernel
theorem dX13_step_970 : decode cX13_step 970 = .ok (.aload_n 0, 1) := by decide +kernel
theorem dX13_step_971 : decode cX13_step 971 = .ok (.invokevirtual 1087, 3) := by decide +kernel
theorem dX13_step_974 : decode cX13_step 974 = .ok (.istore 5, 2) := by decide +kernel
theorem dX13_step_976 : decode cX13_step 976 = .ok (.iload 6, 2) := by decide +kernel
theorem dX13_step_978 : decode cX13_step 978 = .ok (.ifCond .ne 21, 3) := by decide +kernel
theorem dX13_step_981 : decode cX13_step 981 = .ok (.iload_n 2, 1) := by decide +kernel
theorem dX13_step_982 : decode cX13_step 982 = .ok (.bipush 108, 2) := by decide +kernel
theorem dX13_step_984 : decode cX13_step 984 = .ok (.if_icmp .eq 9, 3) := by decide +kernel
theorem dX13_step_987 : decode cX13_step 987 = .ok (.iload_n 2, 1) := by decide +kernel
theorem dX13_step_988 : decode cX13_step 988 = .ok (.bipush 112, 2) := by decide +kernel
theorem dX13_step_990 : decode cX13_step 990 = .ok (.if_icmp .ne 9, 3) := by decide +kernel
theorem dX13_step_993 : decode cX13_step 993 = .ok (.aload_n 0, 1) := by decide +kernel
theorem dX13_step_994 : decode cX13_step 994 = .ok (.iconst 4, 1) := by decide +kernel
theorem dX13_step_995 : decode cX13_step 995 = .ok (.invokevirtual 1093, 3) := by decide +kernel
theorem dX13_step_998 : decode cX13_step 998 = .ok (.return_, 1) := by decide +kernel
theorem dX13_step_999 : decode cX13_step 999 = .ok (.aload_n 0, 1) := by decide +kernel
theorem dX13_step_1000 : decode cX13_step 1000 = .ok (.iload_n 2, 1) := by decide +kernel
theorem dX13_step_1001 : decode cX13_step 1001 = .ok (.iload 5, 2) := by decide +kernel
theorem dX13_step_1003 : decode cX13_step 1003 = .ok (.iload 6, 2) := by decide +kernel
theorem dX13_step_1005 : decode cX13_step 1005 = .ok (.invokestatic 1096, 3) := by decide +kernel
theorem dX13_step_1008 : decode cX13_step 1008 = .ok (.invokevirtual 1072, 3) := by decide +kernel
theorem dX13_step_1011 : decode cX13_step 1011 = .ok (.goto 139, 3) := by decide +kernel
theorem dX13_step_1014 : decode cX13_step 1014 = .ok (.aload_n 0, 1) := by decide +kernel
theorem dX13_step_1015 : decode cX13_step 1015 = .ok (.iload_n 2, 1) := by decide +kernel
theorem dX13_step_1016 : decode cX13_step 1016 = .ok (.invokevirtual 1099, 3) := by decide +kernel
theorem dX13_step_1019 : decode cX13_step 1019 = .ok (.return_, 1) := by decide +kernel
theorem dX13_step_1020 : decode cX13_step 1020 = .ok (.aload_n 0, 1) := by decide +kernel
theorem dX13_step_1021 : decode cX13_step 1021 = .ok (.iload_n 2, 1) := by decide +kernel
theorem dX13_step_1022 : decode cX13_step 1022 = .ok (.iload 4, 2) := by decide +kernel
theorem dX13_step_1024 : decode cX13_step 1024 = .ok (.iload_n 3, 1) := by decide +kernel
theorem dX13_step_1025 : decode cX13_step 1025 = .ok (.invokevirtual 1102, 3) := by decide +kernel
theorem dX13_step_1028 : decode cX13_step 1028 = .ok (.return_, 1) := by decide +kernel
theorem dX13_step_1029 : decode cX13_step 1029 = .ok (.aload_n 0, 1) := by decide +kernel
theorem dX13_step_1030 : decode cX13_step 1030 = .ok (.iload_n 2, 1) := by decide +kernel
theorem dX13_step_1031 : decode cX13_step 1031 = .ok (.iload 4, 2) := by decide +kernel
theorem dX13_step_1033 : decode cX13_step 1033 = .ok (.invokevirtual 1106, 3) := by decide +kernel
theorem dX13_step_1036 : decode cX13_step 1036 = .ok (.return_, 1) := by decide +kernel
theorem dX13_step_1037 : decode cX13_step 1037 = .ok (.aload_n 0, 1) := by decide +kernel
theorem dX13_step_1038 : decode cX13_step 1038 = .ok (.invokevirtual 1087, 3) := by decide +kernel
theorem dX13_step_1041 : decode cX13_step 1041 = .ok (.istore 5, 2) := by decide +kernel
theorem dX13_step_1043 : decode cX13_step 1043 = .ok (.aload_n 0, 1) := by decide +kernel
theorem dX13_step_1044 : decode cX13_step 1044 = .ok (.getfield 1055, 3) := by decide +kernel
theorem dX13_step_1047 : decode cX13_step 1047 = .ok (.sipush 1000, 3) := by decide +kernel
theorem dX13_step_1050 : decode cX13_step 1050 = .ok (.if_icmp .ge 14, 3) := by decide +kernel
theorem dX13_step_1053 : decode cX13_step 1053 = .ok (.aload_n 0, 1) := by decide +kernel
theorem dX13_step_1054 : decode cX13_step 1054 = .ok (.getfield 291, 3) := by decide +kernel
theorem dX13_step_1057 : decode cX13_step 1057 = .ok (.aload_n 0, 1) := by decide +kernel
theorem dX13_step_1058 : decode cX13_step 1058 = .ok (.getfield 1055, 3) := by decide +kernel
theorem dX13_step_1061 : decode cX13_step 1061 = .ok (.iload 5, 2) := by decide +kernel
theorem dX13_step_1063 : decode cX13_step 1063 = .ok (.iastore, 1) := by decide +kernel
theorem dX13_step_1064 : decode cX13_step 1064 = .ok (.aload_n 0, 1) := by decide +kernel
theorem dX13_step_1065 : decode cX13_step 1065 = .ok (.dup, 1) := by decide +kernel
theorem dX13_step_1066 : decode cX13_step 1066 = .ok (.getfield 1055, 3) := by decide +kernel
theorem dX13_step_1069 : decode cX13_step 1069 = .ok (.iconst 1, 1) := by decide +kernel
theorem dX13_step_1070 : decode cX13_step 1070 = .ok (.iadd, 1) := by decide +kernel
theorem dX13_step_1071 : decode cX13_step 1071 = .ok (.putfield 1055, 3) := by decide +kernel
theorem dX13_step_1074 : decode cX13_step 1074 = .ok (.goto 76, 3) := by decide +kernel
theorem dX13_step_1077 : decode cX13_step 1077 = .ok (.aload_n 0, 1) := by decide +kernel
theorem dX13_step_1078 : decode cX13_step 1078 = .ok (.iload_n 2, 1) := by decide +kernel
theorem dX13_step_1079 : decode cX13_step 1079 = .ok (.iload 4, 2) := by decide +kernel
theorem dX13_step_1081 : decode cX13_step 1081 = .ok (.invokevirtual 1109, 3) := by decide +kernel
theorem dX13_step_1084 : decode cX13_step 1084 = .ok (.return_, 1) := by decide +kernel
theorem dX13_step_1085 : decode cX13_step 1085 = .ok (.aload_n 0, 1) := by decide +kernel
theorem dX13_step_1086 : decode cX13_step 1086 = .ok (.invokevirtual 1087, 3) := by decide +kernel
theorem dX13_step_1089 : decode cX13_step 1089 = .ok (.istore 5, 2) := by decide +kernel
theorem dX13_step_1091 : decode cX13_step 1091 = .ok (.iload 5, 2) := by decide +kernel
theorem dX13_step_1093 : decode cX13_step 1093 = .ok (.ifCond .ne 11, 3) := by decide +kernel
theorem dX13_step_1096 : decode cX13_step 1096 = .ok (.aload_n 0, 1) := by decide +kernel
theorem dX13_step_1097 : decode cX13_step 1097 = .ok (.iconst 2, 1) := by decide +kernel
theorem dX13_step_1098 : decode cX13_step 1098 = .ok (.invokevirtual 1093, 3) := by decide +kernel
theorem dX13_step_1101 : decode cX13_step 1101 = .ok (.goto 9, 3) := by decide +kernel
theorem dX13_step_1104 : decode cX13_step 1104 = .ok (.aload_n 0, 1) := by decide +kernel
theorem dX13_step_1105 : decode cX13_step 1105 = .ok (.iload 5, 2) := by decide +kernel
theorem dX13_step_1107 : decode cX13_step 1107 = .ok (.invokevirtual 1066, 3) := by decide +kernel
theorem dX13_step_1110 : decode cX13_step 1110 = .ok (.return_, 1) := by decide +kernel
theorem dX13_step_1111 : decode cX13_step 1111 = .ok (.aload_n 0, 1) := by decide +kernel
theorem dX13_step_1112 : decode cX13_step 1112 = .ok (.iload_n 2, 1) := by decide +kernel
theorem dX13_step_1113 : decode cX13_step 1113 = .ok (.iload 4, 2) := by decide +kernel
theorem dX13_step_1115 : decode cX13_step 1115 = .ok (.invokevirtual 1111, 3) := by decide +kernel
theorem dX13_step_1118 : decode cX13_step 1118 = .ok (.ifCond .ne 32, 3) := by decide +kernel
theorem dX13_step_1121 : decode cX13_step 1121 = .ok (.return_, 1) := by decide +kernel
theorem dX13_step_1122 : decode cX13_step 1122 = .ok (.aload_n 0, 1) := by decide +kernel
theorem dX13_step_1123 : decode cX13_step 1123 = .ok (.iload_n 2, 1) := by decide +kernel
theorem dX13_step_1124 : decode cX13_step 1124 = .ok (.invokevirtual 1114, 3) := by decide +kernel
theorem dX13_step_1127 : decode cX13_step 1127 = .ok (.ifCond .eq 23, 3) := by decide +kernel
theorem dX13_step_1130 : decode cX13_step 1130 = .ok (.aload_n 0, 1) := by decide +kernel
theorem dX13_step_1131 : decode cX13_step 1131 = .ok (.iload_n 1, 1) := by decide +kernel
theorem dX13_step_1132 : decode cX13_step 1132 = .ok (.iconst 1, 1) := by decide +kernel
theorem dX13_step_1133 : decode cX13_step 1133 = .ok (.iadd, 1) := by decide +kernel
theorem dX13_step_1134 : decode cX13_step 1134 = .ok (.invokevirtual 1078, 3) := by decide +kernel
theorem dX13_step_1137 : decode cX13_step 1137 = .ok (.bipush 8, 2) := by decide +kernel
theorem dX13_step_1139 : decode cX13_step 1139 = .ok (.ishl, 1) := by decide +kernel
theorem dX13_step_1140 : decode cX13_step 1140 = .ok (.aload_n 0, 1) := by decide +kernel
theorem dX13_step_1141 : decode cX13_step 1141 = .ok (.iload_n 1, 1) := by decide +kernel
theorem dX13_step_1142 : decode cX13_step 1142 = .ok (.iconst 2, 1) := by decide +kernel
theorem dX13_step_1143 : decode cX13_step 1143 = .ok (.iadd, 1) := by decide +kernel
theorem dX13_step_1144 : decode cX13_step 1144 = .ok (.invokevirtual 1078, 3) := by decide +kernel
theorem dX13_step_1147 : decode cX13_step 1147 = .ok (.ior, 1) := by decide +kernel
theorem dX13_step_1148 : decode cX13_step 1148 = .ok (.i2s, 1) := by decide +kernel
theorem dX13_step_1149 : decode cX13_step 1149 = .ok (.istore_n 3, 1) := by decide +kernel
theorem dX13_step_1150 : decode cX13_step 1150 = .ok (.aload_n 0, 1) := by decide +kernel
theorem dX13_step_1151 : decode cX13_step 1151 = .ok (.iload_n 3, 1) := by decide +kernel
theorem dX13_step_1152 : decode cX13_step 1152 = .ok (.invokevirtual 1116, 3) := by decide +kernel
theorem dX13_step_1155 : decode cX13_step 1155 = .ok (.return_, 1) := by decide +kernel
