theorem dX13_wanted_812 : decode cX13_wanted 812 = .ok (.iconst 1, 1) := by decide +kernel
theorem dX13_wanted_813 : decode cX13_wanted 813 = .ok (.ireturn, 1) := by decide +kernel
theorem dX13_wanted_814 : decode cX13_wanted 814 = .ok (.aload_n 0, 1) := by decide +kernel
theorem dX13_wanted_815 : decode cX13_wanted 815 = .ok (.iconst 2, 1) := by decide +kernel
theorem dX13_wanted_816 : decode cX13_wanted 816 = .ok (.invokevirtual 1028, 3) := by decide +kernel
theorem dX13_wanted_819 : decode cX13_wanted 819 = .ok (.ireturn, 1) := by decide +kernel
theorem dX13_wanted_820 : decode cX13_wanted 820 = .ok (.aload_n 0, 1) := by decide +kernel
theorem dX13_wanted_821 : decode cX13_wanted 821 = .ok (.iconst 1, 1) := by decide +kernel
theorem dX13_wanted_822 : decode cX13_wanted 822 = .ok (.invokevirtual 1028, 3) := by decide +kernel
theorem dX13_wanted_825 : decode cX13_wanted 825 = .ok (.ireturn, 1) := by decide +kernel
theorem dX13_wanted_826 : decode cX13_wanted 826 = .ok (.iload_n 3, 1) := by decide +kernel
theorem dX13_wanted_827 : decode cX13_wanted 827 = .ok (.aload_n 0, 1) := by decide +kernel
theorem dX13_wanted_828 : decode cX13_wanted 828 = .ok (.getfield 964, 3) := by decide +kernel
theorem dX13_wanted_831 : decode cX13_wanted 831 = .ok (.if_icmp .ge 25, 3) := by decide +kernel
theorem dX13_wanted_834 : decode cX13_wanted 834 = .ok (.aload_n 0, 1) := by decide +kernel
theorem dX13_wanted_835 : decode cX13_wanted 835 = .ok (.getfield 270, 3) := by decide +kernel
theorem dX13_wanted_838 : decode cX13_wanted 838 = .ok (.iload_n 3, 1) := by decide +kernel
theorem dX13_wanted_839 : decode cX13_wanted 839 = .ok (.iaload, 1) := by decide +kernel
theorem dX13_wanted_840 : decode cX13_wanted 840 = .ok (.iconst 1, 1) := by decide +kernel
theorem dX13_wanted_841 : decode cX13_wanted 841 = .ok (.if_icmp .ne 15, 3) := by decide +kernel
theorem dX13_wanted_844 : decode cX13_wanted 844 = .ok (.aload_n 0, 1) := by decide +kernel
theorem dX13_wanted_845 : decode cX13_wanted 845 = .ok (.iconst 1, 1) := by decide +kernel
theorem dX13_wanted_846 : decode cX13_wanted 846 = .ok (.invokevirtual 1028, 3) := by decide +kernel
theorem dX13_wanted_849 : decode cX13_wanted 849 = .ok (.ifCond .eq 7, 3) := by decide +kernel
theorem dX13_wanted_852 : decode cX13_wanted 852 = .ok (.iconst 1, 1) := by decide +kernel
theorem dX13_wanted_853 : decode cX13_wanted 853 = .ok (.goto 4, 3) := by decide +kernel
theorem dX13_wanted_856 : decode cX13_wanted 856 = .ok (.iconst 0, 1) := by decide +kernel
theorem dX13_wanted_857 : decode cX13_wanted 857 = .ok (.ireturn, 1) := by decide +kernel
theorem dX13_wanted_858 : decode cX13_wanted 858 = .ok (.iload_n 3, 1) := by decide +kernel
theorem dX13_wanted_859 : decode cX13_wanted 859 = .ok (.aload_n 0, 1) := by decide +kernel
theorem dX13_wanted_860 : decode cX13_wanted 860 = .ok (.getfield 964, 3) := by decide +kernel
theorem dX13_wanted_863 : decode cX13_wanted 863 = .ok (.if_icmp .ge 30, 3) := by decide +kernel
theorem dX13_wanted_866 : decode cX13_wanted 866 = .ok (.aload_n 0, 1) := by decide +kernel
theorem dX13_wanted_867 : decode cX13_wanted 867 = .ok (.getfield 270, 3) := by decide +kernel
theorem dX13_wanted_870 : decode cX13_wanted 870 = .ok (.iload_n 3, 1) := by decide +kernel
theorem dX13_wanted_871 : decode cX13_wanted 871 = .ok (.iaload, 1) := by decide +kernel
theorem dX13_wanted_872 : decode cX13_wanted 872 = .ok (.iconst 2, 1) := by decide +kernel
theorem dX13_wanted_873 : decode cX13_wanted 873 = .ok (.if_icmp .lt 20, 3) := by decide +kernel
theorem dX13_wanted_876 : decode cX13_wanted 876 = .ok (.aload_n 0, 1) := by decide +kernel
theorem dX13_wanted_877 : decode cX13_wanted 877 = .ok (.aload_n 0, 1) := by decide +kernel
theorem dX13_wanted_878 : decode cX13_wanted 878 = .ok (.getfield 270, 3) := by decide +kernel
theorem dX13_wanted_881 : decode cX13_wanted 881 = .ok (.iload_n 3, 1) := by decide +kernel
theorem dX13_wanted_882 : decode cX13_wanted 882 = .ok (.iaload, 1) := by decide +kernel
theorem dX13_wanted_883 : decode cX13_wanted 883 = .ok (.invokevirtual 1028, 3) := by decide +kernel
theorem dX13_wanted_886 : decode cX13_wanted 886 = .ok (.ifCond .eq 7, 3) := by decide +kernel
theorem dX13_wanted_889 : decode cX13_wanted 889 = .ok (.iconst 1, 1) := by decide +kernel
theorem dX13_wanted_890 : decode cX13_wanted 890 = .ok (.goto 4, 3) := by decide +kernel
theorem dX13_wanted_893 : decode cX13_wanted 893 = .ok (.iconst 0, 1) := by decide +kernel
theorem dX13_wanted_894 : decode cX13_wanted 894 = .ok (.ireturn, 1) := by decide +kernel
theorem dX13_wanted_895 : decode cX13_wanted 895 = .ok (.iload_n 3, 1) := by decide +kernel
theorem dX13_wanted_896 : decode cX13_wanted 896 = .ok (.aload_n 0, 1) := by decide +kernel
theorem dX13_wanted_897 : decode cX13_wanted 897 = .ok (.getfield 964, 3) := by decide +kernel
theorem dX13_wanted_900 : decode cX13_wanted 900 = .ok (.if_icmp .ge 11, 3) := by decide +kernel
theorem dX13_wanted_903 : decode cX13_wanted 903 = .ok (.aload_n 0, 1) := by decide +kernel
theorem dX13_wanted_904 : decode cX13_wanted 904 = .ok (.invokevirtual 1025, 3) := by decide +kernel
theorem dX13_wanted_907 : decode cX13_wanted 907 = .ok (.iconst 1, 1) := by decide +kernel
theorem dX13_wanted_908 : decode cX13_wanted 908 = .ok (.if_icmp .eq 5, 3) := by decide +kernel
theorem dX13_wanted_911 : decode cX13_wanted 911 = .ok (.iconst 0, 1) := by decide +kernel
theorem dX13_wanted_912 : decode cX13_wanted 912 = .ok (.ireturn, 1) := by decide +kernel
theorem dX13_wanted_913 : decode cX13_wanted 913 = .ok (.aload_n 0, 1) := by decide +kernel
theorem dX13_wanted_914 : decode cX13_wanted 914 = .ok (.getfield 270, 3) := by decide +kernel
theorem dX13_wanted_917 : decode cX13_wanted 917 = .ok (.iload_n 3, 1) := by decide +kernel
theorem dX13_wanted_918 : decode cX13_wanted 918 = .ok (.iconst 1, 1) := by decide +kernel
theorem dX13_wanted_919 : decode cX13_wanted 919 = .ok (.iastore, 1) := by decide +kernel
theorem dX13_wanted_920 : decode cX13_wanted 920 = .ok (.iconst 1, 1) := by decide +kernel
theorem dX13_wanted_921 : decode cX13_wanted 921 = .ok (.ireturn, 1) := by decide +kernel
theorem dX13_wanted_922 : decode cX13_wanted 922 = .ok (.aload_n 0, 1) := by decide +kernel
theorem dX13_wanted_923 : decode cX13_wanted 923 = .ok (.invokevirtual 1025, 3) := by decide +kernel
theorem dX13_wanted_926 : decode cX13_wanted 926 = .ok (.istore 4, 2) := by decide +kernel
theorem dX13_wanted_928 : decode cX13_wanted 928 = .ok (.iload_n 3, 1) := by decide +kernel
theorem dX13_wanted_929 : decode cX13_wanted 929 = .ok (.aload_n 0, 1) := by decide +kernel
theorem dX13_wanted_930 : decode cX13_wanted 930 = .ok (.getfield 964, 3) := by decide +kernel
theorem dX13_wanted_933 : decode cX13_wanted 933 = .ok (.if_icmp .ge 9, 3) := by decide +kernel
theorem dX13_wanted_936 : decode cX13_wanted 936 = .ok (.iload 4, 2) := by decide +kernel
theorem dX13_wanted_938 : decode cX13_wanted 938 = .ok (.iconst 2, 1) := by decide +kernel
theorem dX13_wanted_939 : decode cX13_wanted 939 = .ok (.if_icmp .ge 5, 3) := by decide +kernel
theorem dX13_wanted_942 : decode cX13_wanted 942 = .ok (.iconst 0, 1) := by decide +kernel
theorem dX13_wanted_943 : decode cX13_wanted 943 = .ok (.ireturn, 1) := by decide +kernel
theorem dX13_wanted_944 : decode cX13_wanted 944 = .ok (.aload_n 0, 1) := by decide +kernel
theorem dX13_wanted_945 : decode cX13_wanted 945 = .ok (.getfield 270, 3) := by decide +kernel
theorem dX13_wanted_948 : decode cX13_wanted 948 = .ok (.iload_n 3, 1) := by decide +kernel
theorem dX13_wanted_949 : decode cX13_wanted 949 = .ok (.iload 4, 2) := by decide +kernel
theorem dX13_wanted_951 : decode cX13_wanted 951 = .ok (.iastore, 1) := by decide +kernel
theorem dX13_wanted_952 : decode cX13_wanted 952 = .ok (.iconst 1, 1) := by decide +kernel
theorem dX13_wanted_953 : decode cX13_wanted 953 = .ok (.ireturn, 1) := by decide +kernel
theorem dX13_wanted_954 : decode cX13_wanted 954 = .ok (.aload_n 0, 1) := by decide +kernel
theorem dX13_wanted_955 : decode cX13_wanted 955 = .ok (.iconst 1, 1) := by decide +kernel
theorem dX13_wanted_956 : decode cX13_wanted 956 = .ok (.invokevirtual 1031, 3) := by decide +kernel
theorem dX13_wanted_959 : decode cX13_wanted 959 = .ok (.ifCond .ne 5, 3) := by decide +kernel
theorem dX13_wanted_962 : decode cX13_wanted 962 = .ok (.iconst 0, 1) := by decide +kernel
theorem dX13_wanted_963 : decode cX13_wanted 963 = .ok (.ireturn, 1) := by decide +kernel
theorem dX13_wanted_964 : decode cX13_wanted 964 = .ok (.aload_n 0, 1) := by decide +kernel
theorem dX13_wanted_965 : decode cX13_wanted 965 = .ok (.invokevirtual 1025, 3) := by decide +kernel
theorem dX13_wanted_968 : decode cX13_wanted 968 = .ok (.istore 4, 2) := by decide +kernel
theorem dX13_wanted_970 : decode cX13_wanted 970 = .ok (.iload 4, 2) := by decide +kernel
theorem dX13_wanted_972 : decode cX13_wanted 972 = .ok (.iconst 3, 1) := by decide +kernel
theorem dX13_wanted_973 : decode cX13_wanted 973 = .ok (.if_icmp .eq 9, 3) := by decide +kernel
theorem dX13_wanted_976 : decode cX13_wanted 976 = .ok (.iload 4, 2) := by decide +kernel
theorem dX13_wanted_978 : decode cX13_wanted 978 = .ok (.iconst 2, 1) := by decide +kernel
theorem dX13_wanted_979 : decode cX13_wanted 979 = .ok (.if_icmp .ne 15, 3) := by decide +kernel
theorem dX13_wanted_982 : decode cX13_wanted 982 = .ok (.aload_n 0, 1) := by decide +kernel
theorem dX13_wanted_983 : decode cX13_wanted 983 = .ok (.iconst 1, 1) := by decide +kernel
theorem dX13_wanted_984 : decode cX13_wanted 984 = .ok (.invokevirtual 1028, 3) := by decide +kernel
theorem dX13_wanted_987 : decode cX13_wanted 987 = .ok (.ifCond .eq 7, 3) := by decide +kernel
theorem dX13_wanted_990 : decode cX13_wanted 990 = .ok (.iconst 1, 1) := by decide +kernel
theorem dX13_wanted_991 : decode cX13_wanted 991 = .ok (.goto 4, 3) := by decide +kernel
theorem dX13_wanted_994 : decode cX13_wanted 994 = .ok (.iconst 0, 1) := by decide +kernel
theorem dX13_wanted_995 : decode cX13_wanted 995 = .ok (.ireturn, 1) := by decide +kernel
theorem dX13_wanted_996 : decode cX13_wanted 996 = .ok (.aload_n 0, 1) := by decide +kernel
theorem dX13_wanted_997 : decode cX13_wanted 997 = .ok (.iconst 1, 1) := by decide +kernel
theorem dX13_wanted_998 : decode cX13_wanted 998 = .ok (.invokevirtual 1031, 3) := by decide +kernel
theorem dX13_wanted_1001 : decode cX13_wanted 1001 = .ok (.ifCond .ne 5, 3) := by decide +kernel
theorem dX13_wanted_1004 : decode cX13_wanted 1004 = .ok (.iconst 0, 1) := by decide +kernel
theorem dX13_wanted_1005 : decode cX13_wanted 1005 = .ok (.ireturn, 1) := by decide +kernel
theorem dX13_wanted_1006 : decode cX13_wanted 1006 = .ok (.aload_n 0, 1) := by decide +kernel
theorem dX13_wanted_1007 : decode cX13_wanted 1007 = .ok (.invokevirtual 1025, 3) := by decide +kernel
theorem dX13_wanted_1010 : decode cX13_wanted 1010 = .ok (.istore 4, 2) := by decide +kernel
theorem dX13_wanted_1012 : decode cX13_wanted 1012 = .ok (.iload 4, 2) := by decide +kernel
theorem dX13_wanted_1014 : decode cX13_wanted 1014 = .ok (.iconst 2, 1) := by decide +kernel
theorem dX13_wanted_1015 : decode cX13_wanted 1015 = .ok (.if_icmp .ne 9, 3) := by decide +kernel
theorem dX13_wanted_1018 : decode cX13_wanted 1018 = .ok (.aload_n 0, 1) := by decide +kernel
theorem dX13_wanted_1019 : decode cX13_wanted 1019 = .ok (.iconst 2, 1) := by decide +kernel
theorem dX13_wanted_1020 : decode cX13_wanted 1020 = .ok (.invokevirtual 1028, 3) := by decide +kernel
theorem dX13_wanted_1023 : decode cX13_wanted 1023 = .ok (.ireturn, 1) := by decide +kernel
theorem dX13_wanted_1024 : decode cX13_wanted 1024 = .ok (.iload 4, 2) := by decide +kernel
theorem dX13_wanted_1026 : decode cX13_wanted 1026 = .ok (.iconst 3, 1) := by decide +kernel
theorem dX13_wanted_1027 : decode cX13_wanted 1027 = .ok (.if_icmp .le 26, 3) := by decide +kernel
theorem dX13_wanted_1030 : decode cX13_wanted 1030 = .ok (.iload 4, 2) := by decide +kernel
theorem dX13_wanted_1032 : decode cX13_wanted 1032 = .ok (.invokestatic 888, 3) := by decide +kernel
theorem dX13_wanted_1035 : decode cX13_wanted 1035 = .ok (.ifCond .eq 18, 3) := by decide +kernel
theorem dX13_wanted_1038 : decode cX13_wanted 1038 = .ok (.aload_n 0, 1) := by decide +kernel
theorem dX13_wanted_1039 : decode cX13_wanted 1039 = .ok (.iload 4, 2) := by decide +kernel
theorem dX13_wanted_1041 : decode cX13_wanted 1041 = .ok (.iconst 1, 1) := by decide +kernel
theorem dX13_wanted_1042 : decode cX13_wanted 1042 = .ok (.isub, 1) := by decide +kernel
theorem dX13_wanted_1043 : decode cX13_wanted 1043 = .ok (.invokevirtual 1028, 3) := by decide +kernel
theorem dX13_wanted_1046 : decode cX13_wanted 1046 = .ok (.ifCond .eq 7, 3) := by decide +kernel
theorem dX13_wanted_1049 : decode cX13_wanted 1049 = .ok (.iconst 1, 1) := by decide +kernel
theorem dX13_wanted_1050 : decode cX13_wanted 1050 = .ok (.goto 4, 3) := by decide +kernel
theorem dX13_wanted_1053 : decode cX13_wanted 1053 = .ok (.iconst 0, 1) := by decide +kernel
theorem dX13_wanted_1054 : decode cX13_wanted 1054 = .ok (.ireturn, 1) := by decide +kernel
theorem dX13_wanted_1055 : decode cX13_wanted 1055 = .ok (.aload_n 0, 1) := by decide +kernel
theorem dX13_wanted_1056 : decode cX13_wanted 1056 = .ok (.iconst 2, 1) := by decide +kernel
theorem dX13_wanted_1057 : decode cX13_wanted 1057 = .ok (.invokevirtual 1031, 3) := by decide +kernel
theorem dX13_wanted_1060 : decode cX13_wanted 1060 = .ok (.ifCond .ne 5, 3) := by decide +kernel
theorem dX13_wanted_1063 : decode cX13_wanted 1063 = .ok (.iconst 0, 1) := by decide +kernel
theorem dX13_wanted_1064 : decode cX13_wanted 1064 = .ok (.ireturn, 1) := by decide +kernel
theorem dX13_wanted_1065 : decode cX13_wanted 1065 = .ok (.aload_n 0, 1) := by decide +kernel
theorem dX13_wanted_1066 : decode cX13_wanted 1066 = .ok (.invokevirtual 1025, 3) := by decide +kernel
theorem dX13_wanted_1069 : decode cX13_wanted 1069 = .ok (.istore 4, 2) := by decide +kernel
theorem dX13_wanted_1071 : decode cX13_wanted 1071 = .ok (.iload 4, 2) := by decide +kernel
theorem dX13_wanted_1073 : decode cX13_wanted 1073 = .ok (.iconst 3, 1) := by decide +kernel
theorem dX13_wanted_1074 : decode cX13_wanted 1074 = .ok (.if_icmp .eq 9, 3) := by decide +kernel
theorem dX13_wanted_1077 : decode cX13_wanted 1077 = .ok (.iload 4, 2) := by decide +kernel
theorem dX13_wanted_1079 : decode cX13_wanted 1079 = .ok (.iconst 2, 1) := by decide +kernel
theorem dX13_wanted_1080 : decode cX13_wanted 1080 = .ok (.if_icmp .ne 7, 3) := by decide +kernel
theorem dX13_wanted_1083 : decode cX13_wanted 1083 = .ok (.iconst 1, 1) := by decide +kernel
theorem dX13_wanted_1084 : decode cX13_wanted 1084 = .ok (.goto 4, 3) := by decide +kernel
theorem dX13_wanted_1087 : decode cX13_wanted 1087 = .ok (.iconst 0, 1) := by decide +kernel
theorem dX13_wanted_1088 : decode cX13_wanted 1088 = .ok (.ireturn, 1) := by decide +kernel
theorem dX13_wanted_1089 : decode cX13_wanted 1089 = .ok (.aload_n 0, 1) := by decide +kernel
theorem dX13_wanted_1090 : decode cX13_wanted 1090 = .ok (.invokevirtual 1034, 3) := by decide +kernel
theorem dX13_wanted_1093 : decode cX13_wanted 1093 = .ok (.ifCond .eq 11, 3) := by decide +kernel
theorem dX13_wanted_1096 : decode cX13_wanted 1096 = .ok (.aload_n 0, 1) := by decide +kernel
theorem dX13_wanted_1097 : decode cX13_wanted 1097 = .ok (.iconst 1, 1) := by decide +kernel
theorem dX13_wanted_1098 : decode cX13_wanted 1098 = .ok (.invokevirtual 1031, 3) := by decide +kernel
theorem dX13_wanted_1101 : decode cX13_wanted 1101 = .ok (.ifCond .ne 5, 3) := by decide +kernel
theorem dX13_wanted_1104 : decode cX13_wanted 1104 = .ok (.iconst 0, 1) := by decide +kernel
theorem dX13_wanted_1105 : decode cX13_wanted 1105 = .ok (.ireturn, 1) := by decide +kernel
theorem dX13_wanted_1106 : decode cX13_wanted 1106 = .ok (.aload_n 0, 1) := by decide +kernel
theorem dX13_wanted_1107 : decode cX13_wanted 1107 = .ok (.invokevirtual 1025, 3) := by decide +kernel
theorem dX13_wanted_1110 : decode cX13_wanted 1110 = .ok (.istore 4, 2) := by decide +kernel
theorem dX13_wanted_1112 : decode cX13_wanted 1112 = .ok (.iload 4, 2) := by decide +kernel
theorem dX13_wanted_1114 : decode cX13_wanted 1114 = .ok (.iconst 2, 1) := by decide +kernel
theorem dX13_wanted_1115 : decode cX13_wanted 1115 = .ok (.if_icmp .eq 17, 3) := by decide +kernel
theorem dX13_wanted_1118 : decode cX13_wanted 1118 = .ok (.iload 4, 2) := by decide +kernel
theorem dX13_wanted_1120 : decode cX13_wanted 1120 = .ok (.iconst 3, 1) := by decide +kernel
theorem dX13_wanted_1121 : decode cX13_wanted 1121 = .ok (.if_icmp .le 15, 3) := by decide +kernel
theorem dX13_wanted_1124 : decode cX13_wanted 1124 = .ok (.iload 4, 2) := by decide +kernel
theorem dX13_wanted_1126 : decode cX13_wanted 1126 = .ok (.invokestatic 888, 3) := by decide +kernel
theorem dX13_wanted_1129 : decode cX13_wanted 1129 = .ok (.ifCond .eq 7, 3) := by decide +kernel
theorem dX13_wanted_1132 : decode cX13_wanted 1132 = .ok (.iconst 1, 1) := by decide +kernel
theorem dX13_wanted_1133 : decode cX13_wanted 1133 = .ok (.goto 4, 3) := by decide +kernel
theorem dX13_wanted_1136 : decode cX13_wanted 1136 = .ok (.iconst 0, 1) := by decide +kernel
theorem dX13_wanted_1137 : decode cX13_wanted 1137 = .ok (.ireturn, 1) := by decide +kernel
theorem dX13_wanted_1138 : decode cX13_wanted 1138 = .ok (.aload_n 0, 1) := by decide +kernel
theorem dX13_wanted_1139 : decode cX13_wanted 1139 = .ok (.invokevirtual 1025, 3) := by decide +kernel
theorem dX13_wanted_1142 : decode cX13_wanted 1142 = .ok (.iconst (-1), 1) := by decide +kernel
theorem dX13_wanted_1143 : decode cX13_wanted 1143 = .ok (.if_icmp .eq 7, 3) := by decide +kernel
theorem dX13_wanted_1146 : decode cX13_wanted 1146 = .ok (.iconst 1, 1) := by decide +kernel
theorem dX13_wanted_1147 : decode cX13_wanted 1147 = .ok (.goto 4, 3) := by decide +kernel
theorem dX13_wanted_1150 : decode cX13_wanted 1150 = .ok (.iconst 0, 1) := by decide +kernel
theorem dX13_wanted_1151 : decode cX13_wanted 1151 = .ok (.ireturn, 1) := by decide +kernel
theorem dX13_wanted_1152 : decode cX13_wanted 1152 = .ok (.aload_n 0, 1) := by decide +kernel
theorem dX13_wanted_1153 : decode cX13_wanted 1153 = .ok (.getfield 961, 3) := by decide +kernel
theorem dX13_wanted_1156 : decode cX13_wanted 1156 = .ok (.ifCond .le 25, 3) := by decide +kernel
theorem dX13_wanted_1159 : decode cX13_wanted 1159 = .ok (.aload_n 0, 1) := by decide +kernel
theorem dX13_wanted_1160 : decode cX13_wanted 1160 = .ok (.aload_n 0, 1) := by decide +kernel
theorem dX13_wanted_1161 : decode cX13_wanted 1161 = .ok (.getfield 273, 3) := by decide +kernel
theorem dX13_wanted_1164 : decode cX13_wanted 1164 = .ok (.aload_n 0, 1) := by decide +kernel
theorem dX13_wanted_1165 : decode cX13_wanted 1165 = .ok (.getfield 961, 3) := by decide +kernel
theorem dX13_wanted_1168 : decode cX13_wanted 1168 = .ok (.iconst 1, 1) := by decide +kernel
theorem dX13_wanted_1169 : decode cX13_wanted 1169 = .ok (.isub, 1) := by decide +kernel
theorem dX13_wanted_1170 : decode cX13_wanted 1170 = .ok (.iaload, 1) := by decide +kernel
theorem dX13_wanted_1171 : decode cX13_wanted 1171 = .ok (.invokevirtual 1028, 3) := by decide +kernel
theorem dX13_wanted_1174 : decode cX13_wanted 1174 = .ok (.ifCond .eq 7, 3) := by decide +kernel
theorem dX13_wanted_1177 : decode cX13_wanted 1177 = .ok (.iconst 1, 1) := by decide +kernel
theorem dX13_wanted_1178 : decode cX13_wanted 1178 = .ok (.goto 4, 3) := by decide +kernel
theorem dX13_wanted_1181 : decode cX13_wanted 1181 = .ok (.iconst 0, 1) := by decide +kernel
theorem dX13_wanted_1182 : decode cX13_wanted 1182 = .ok (.ireturn, 1) := by decide +kernel
theorem dX13_wanted_1183 : decode cX13_wanted 1183 = .ok (.aload_n 0, 1) := by decide +kernel
theorem dX13_wanted_1184 : decode cX13_wanted 1184 = .ok (.iconst 2, 1) := by decide +kernel
theorem dX13_wanted_1185 : decode cX13_wanted 1185 = .ok (.invokevirtual 1031, 3) := by decide +kernel
theorem dX13_wanted_1188 : decode cX13_wanted 1188 = .ok (.ifCond .eq 15, 3) := by decide +kernel
theorem dX13_wanted_1191 : decode cX13_wanted 1191 = .ok (.aload_n 0, 1) := by decide +kernel
theorem dX13_wanted_1192 : decode cX13_wanted 1192 = .ok (.iconst 1, 1) := by decide +kernel
theorem dX13_wanted_1193 : decode cX13_wanted 1193 = .ok (.invokevirtual 1028, 3) := by decide +kernel
theorem dX13_wanted_1196 : decode cX13_wanted 1196 = .ok (.ifCond .eq 7, 3) := by decide +kernel
theorem dX13_wanted_1199 : decode cX13_wanted 1199 = .ok (.iconst 1, 1) := by decide +kernel
theorem dX13_wanted_1200 : decode cX13_wanted 1200 = .ok (.goto 4, 3) := by decide +kernel
theorem dX13_wanted_1203 : decode cX13_wanted 1203 = .ok (.iconst 0, 1) := by decide +kernel
theorem dX13_wanted_1204 : decode cX13_wanted 1204 = .ok (.ireturn, 1) := by decide +kernel
theorem dX13_wanted_1205 : decode cX13_wanted 1205 = .ok (.aload_n 0, 1) := by decide +kernel
theorem dX13_wanted_1206 : decode cX13_wanted 1206 = .ok (.iconst 1, 1) := by decide +kernel
theorem dX13_wanted_1207 : decode cX13_wanted 1207 = .ok (.invokevirtual 1031, 3) := by decide +kernel
theorem dX13_wanted_1210 : decode cX13_wanted 1210 = .ok (.ifCond .eq 15, 3) := by decide +kernel
theorem dX13_wanted_1213 : decode cX13_wanted 1213 = .ok (.aload_n 0, 1) := by decide +kernel
theorem dX13_wanted_1214 : decode cX13_wanted 1214 = .ok (.iconst 1, 1) := by decide +kernel
theorem dX13_wanted_1215 : decode cX13_wanted 1215 = .ok (.invokevirtual 1028, 3) := by decide +kernel
theorem dX13_wanted_1218 : decode cX13_wanted 1218 = .ok (.ifCond .eq 7, 3) := by decide +kernel
theorem dX13_wanted_1221 : decode cX13_wanted 1221 = .ok (.iconst 1, 1) := by decide +kernel
theorem dX13_wanted_1222 : decode cX13_wanted 1222 = .ok (.goto 4, 3) := by decide +kernel
theorem dX13_wanted_1225 : decode cX13_wanted 1225 = .ok (.iconst 0, 1) := by decide +kernel
theorem dX13_wanted_1226 : decode cX13_wanted 1226 = .ok (.ireturn, 1) := by decide +kernel
theorem dX13_wanted_1227 : decode cX13_wanted 1227 = .ok (.aload_n 0, 1) := by decide +kernel
theorem dX13_wanted_1228 : decode cX13_wanted 1228 = .ok (.iconst 1, 1) := by decide +kernel
theorem dX13_wanted_1229 : decode cX13_wanted 1229 = .ok (.invokevirtual 1031, 3) := by decide +kernel
theorem dX13_wanted_1232 : decode cX13_wanted 1232 = .ok (.ireturn, 1) := by decide +kernel
theorem dX13_wanted_1233 : decode cX13_wanted 1233 = .ok (.aload_n 0, 1) := by decide +kernel
theorem dX13_wanted_1234 : decode cX13_wanted 1234 = .ok (.iconst 2, 1) := by decide +kernel
theorem dX13_wanted_1235 : decode cX13_wanted 1235 = .ok (.invokevirtual 1031, 3) := by decide +kernel
theorem dX13_wanted_1238 : decode cX13_wanted 1238 = .ok (.ireturn, 1) := by decide +kernel
theorem dX13_wanted_1239 : decode cX13_wanted 1239 = .ok (.aload_n 0, 1) := by decide +kernel
theorem dX13_wanted_1240 : decode cX13_wanted 1240 = .ok (.invokevirtual 1034, 3) := by decide +kernel
theorem dX13_wanted_1243 : decode cX13_wanted 1243 = .ok (.ifCond .eq 14, 3) := by decide +kernel
theorem dX13_wanted_1246 : decode cX13_wanted 1246 = .ok (.aload_n 0, 1) := by decide +kernel
theorem dX13_wanted_1247 : decode cX13_wanted 1247 = .ok (.invokevirtual 1034, 3) := by decide +kernel
theorem dX13_wanted_1250 : decode cX13_wanted 1250 = .ok (.ifCond .eq 7, 3) := by decide +kernel
theorem dX13_wanted_1253 : decode cX13_wanted 1253 = .ok (.iconst 1, 1) := by decide +kernel
theorem dX13_wanted_1254 : decode cX13_wanted 1254 = .ok (.goto 4, 3) := by decide +kernel
theorem dX13_wanted_1257 : decode cX13_wanted 1257 = .ok (.iconst 0, 1) := by decide +kernel
theorem dX13_wanted_1258 : decode cX13_wanted 1258 = .ok (.ireturn, 1) := by decide +kernel
theorem dX13_wanted_1259 : decode cX13_wanted 1259 = .ok (.aload_n 0, 1) := by decide +kernel
theorem dX13_wanted_1260 : decode cX13_wanted 1260 = .ok (.getfield 209, 3) := by decide +kernel
theorem dX13_wanted_1263 : decode cX13_wanted 1263 = .ok (.aload_n 0, 1) := by decide +kernel
theorem dX13_wanted_1264 : decode cX13_wanted 1264 = .ok (.getfield 998, 3) := by decide +kernel
theorem dX13_wanted_1267 : decode cX13_wanted 1267 = .ok (.iaload, 1) := by decide +kernel
theorem dX13_wanted_1268 : decode cX13_wanted 1268 = .ok (.bipush 73, 2) := by decide +kernel
theorem dX13_wanted_1270 : decode cX13_wanted 1270 = .ok (.if_icmp .eq 17, 3) := by decide +kernel
theorem dX13_wanted_1273 : decode cX13_wanted 1273 = .ok (.aload_n 0, 1) := by decide +kernel
theorem dX13_wanted_1274 : decode cX13_wanted 1274 = .ok (.getfield 209, 3) := by decide +kernel
theorem dX13_wanted_1277 : decode cX13_wanted 1277 = .ok (.aload_n 0, 1) := by decide +kernel
theorem dX13_wanted_1278 : decode cX13_wanted 1278 = .ok (.getfield 998, 3) := by decide +kernel
theorem dX13_wanted_1281 : decode cX13_wanted 1281 = .ok (.iaload, 1) := by decide +kernel
theorem dX13_wanted_1282 : decode cX13_wanted 1282 = .ok (.bipush 90, 2) := by decide +kernel
theorem dX13_wanted_1284 : decode cX13_wanted 1284 = .ok (.if_icmp .ne 15, 3) := by decide +kernel
theorem dX13_wanted_1287 : decode cX13_wanted 1287 = .ok (.aload_n 0, 1) := by decide +kernel
theorem dX13_wanted_1288 : decode cX13_wanted 1288 = .ok (.iconst 1, 1) := by decide +kernel
theorem dX13_wanted_1289 : decode cX13_wanted 1289 = .ok (.invokevirtual 1031, 3) := by decide +kernel
theorem dX13_wanted_1292 : decode cX13_wanted 1292 = .ok (.ifCond .eq 7, 3) := by decide +kernel
theorem dX13_wanted_1295 : decode cX13_wanted 1295 = .ok (.iconst 1, 1) := by decide +kernel
theorem dX13_wanted_1296 : decode cX13_wanted 1296 = .ok (.goto 4, 3) := by decide +kernel
theorem dX13_wanted_1299 : decode cX13_wanted 1299 = .ok (.iconst 0, 1) := by decide +kernel
theorem dX13_wanted_1300 : decode cX13_wanted 1300 = .ok (.ireturn, 1) := by decide +kernel
theorem dX13_wanted_1301 : decode cX13_wanted 1301 = .ok (.aload_n 0, 1) := by decide +kernel
theorem dX13_wanted_1302 : decode cX13_wanted 1302 = .ok (.getfield 209, 3) := by decide +kernel
theorem dX13_wanted_1305 : decode cX13_wanted 1305 = .ok (.aload_n 0, 1) := by decide +kernel
theorem dX13_wanted_1306 : decode cX13_wanted 1306 = .ok (.getfield 998, 3) := by decide +kernel
theorem dX13_wanted_1309 : decode cX13_wanted 1309 = .ok (.iaload, 1) := by decide +kernel
theorem dX13_wanted_1310 : decode cX13_wanted 1310 = .ok (.bipush 73, 2) := by decide +kernel
theorem dX13_wanted_1312 : decode cX13_wanted 1312 = .ok (.if_icmp .eq 50, 3) := by decide +kernel
theorem dX13_wanted_1315 : decode cX13_wanted 1315 = .ok (.aload_n 0, 1) := by decide +kernel
theorem dX13_wanted_1316 : decode cX13_wanted 1316 = .ok (.getfield 209, 3) := by decide +kernel
theorem dX13_wanted_1319 : decode cX13_wanted 1319 = .ok (.aload_n 0, 1) := by decide +kernel
theorem dX13_wanted_1320 : decode cX13_wanted 1320 = .ok (.getfield 998, 3) := by decide +kernel
theorem dX13_wanted_1323 : decode cX13_wanted 1323 = .ok (.iaload, 1) := by decide +kernel
theorem dX13_wanted_1324 : decode cX13_wanted 1324 = .ok (.bipush 90, 2) := by decide +kernel
theorem dX13_wanted_1326 : decode cX13_wanted 1326 = .ok (.if_icmp .eq 36, 3) := by decide +kernel
theorem dX13_wanted_1329 : decode cX13_wanted 1329 = .ok (.aload_n 0, 1) := by decide +kernel
theorem dX13_wanted_1330 : decode cX13_wanted 1330 = .ok (.getfield 209, 3) := by decide +kernel
theorem dX13_wanted_1333 : decode cX13_wanted 1333 = .ok (.aload_n 0, 1) := by decide +kernel
theorem dX13_wanted_1334 : decode cX13_wanted 1334 = .ok (.getfield 998, 3) := by decide +kernel
theorem dX13_wanted_1337 : decode cX13_wanted 1337 = .ok (.iaload, 1) := by decide +kernel
theorem dX13_wanted_1338 : decode cX13_wanted 1338 = .ok (.bipush 86, 2) := by decide +kernel
theorem dX13_wanted_1340 : decode cX13_wanted 1340 = .ok (.if_icmp .eq 22, 3) := by decide +kernel
theorem dX13_wanted_1343 : decode cX13_wanted 1343 = .ok (.aload_n 0, 1) := by decide +kernel
theorem dX13_wanted_1344 : decode cX13_wanted 1344 = .ok (.aload_n 0, 1) := by decide +kernel
theorem dX13_wanted_1345 : decode cX13_wanted 1345 = .ok (.aload_n 0, 1) := by decide +kernel
theorem dX13_wanted_1346 : decode cX13_wanted 1346 = .ok (.getfield 998, 3) := by decide +kernel
theorem dX13_wanted_1349 : decode cX13_wanted 1349 = .ok (.invokevirtual 885, 3) := by decide +kernel
theorem dX13_wanted_1352 : decode cX13_wanted 1352 = .ok (.invokevirtual 1037, 3) := by decide +kernel
theorem dX13_wanted_1355 : decode cX13_wanted 1355 = .ok (.ifCond .eq 7, 3) := by decide +kernel
theorem dX13_wanted_1358 : decode cX13_wanted 1358 = .ok (.iconst 1, 1) := by decide +kernel
theorem dX13_wanted_1359 : decode cX13_wanted 1359 = .ok (.goto 4, 3) := by decide +kernel
theorem dX13_wanted_1362 : decode cX13_wanted 1362 = .ok (.iconst 0, 1) := by decide +kernel
theorem dX13_wanted_1363 : decode cX13_wanted 1363 = .ok (.ireturn, 1) := by decide +kernel
theorem dX13_wanted_1364 : decode cX13_wanted 1364 = .ok (.aload_n 0, 1) := by decide +kernel
theorem dX13_wanted_1365 : decode cX13_wanted 1365 = .ok (.getfield 209, 3) := by decide +kernel
theorem dX13_wanted_1368 : decode cX13_wanted 1368 = .ok (.aload_n 0, 1) := by decide +kernel
theorem dX13_wanted_1369 : decode cX13_wanted 1369 = .ok (.getfield 998, 3) := by decide +kernel
theorem dX13_wanted_1372 : decode cX13_wanted 1372 = .ok (.iaload, 1) := by decide +kernel
theorem dX13_wanted_1373 : decode cX13_wanted 1373 = .ok (.bipush 86, 2) := by decide +kernel
theorem dX13_wanted_1375 : decode cX13_wanted 1375 = .ok (.if_icmp .ne 7, 3) := by decide +kernel
theorem dX13_wanted_1378 : decode cX13_wanted 1378 = .ok (.iconst 1, 1) := by decide +kernel
theorem dX13_wanted_1379 : decode cX13_wanted 1379 = .ok (.goto 4, 3) := by decide +kernel
theorem dX13_wanted_1382 : decode cX13_wanted 1382 = .ok (.iconst 0, 1) := by decide +kernel
theorem dX13_wanted_1383 : decode cX13_wanted 1383 = .ok (.ireturn, 1) := by decide +kernel
theorem dX13_wanted_1384 : decode cX13_wanted 1384 = .ok (.aload_n 0, 1) := by decide +kernel
theorem dX13_wanted_1385 : decode cX13_wanted 1385 = .ok (.aload_n 0, 1) := by decide +kernel
theorem dX13_wanted_1386 : decode cX13_wanted 1386 = .ok (.aload_n 0, 1) := by decide +kernel
theorem dX13_wanted_1387 : decode cX13_wanted 1387 = .ok (.getfield 932, 3) := by decide +kernel
theorem dX13_wanted_1390 : decode cX13_wanted 1390 = .ok (.aload_n 0, 1) := by decide +kernel
theorem dX13_wanted_1391 : decode cX13_wanted 1391 = .ok (.iload_n 3, 1) := by decide +kernel
theorem dX13_wanted_1392 : decode cX13_wanted 1392 = .ok (.iconst 0, 1) := by decide +kernel
theorem dX13_wanted_1393 : decode cX13_wanted 1393 = .ok (.invokevirtual 1022, 3) := by decide +kernel
theorem dX13_wanted_1396 : decode cX13_wanted 1396 = .ok (.invokevirtual 952, 3) := by decide +kernel
theorem dX13_wanted_1399 : decode cX13_wanted 1399 = .ok (.invokevirtual 1037, 3) := by decide +kernel
theorem dX13_wanted_1402 : decode cX13_wanted 1402 = .ok (.ifCond .eq 28, 3) := by decide +kernel
theorem dX13_wanted_1405 : decode cX13_wanted 1405 = .ok (.aload_n 0, 1) := by decide +kernel
theorem dX13_wanted_1406 : decode cX13_wanted 1406 = .ok (.aload_n 0, 1) := by decide +kernel
theorem dX13_wanted_1407 : decode cX13_wanted 1407 = .ok (.aload_n 0, 1) := by decide +kernel
theorem dX13_wanted_1408 : decode cX13_wanted 1408 = .ok (.getfield 932, 3) := by decide +kernel
theorem dX13_wanted_1411 : decode cX13_wanted 1411 = .ok (.aload_n 0, 1) := by decide +kernel
theorem dX13_wanted_1412 : decode cX13_wanted 1412 = .ok (.iload_n 3, 1) := by decide +kernel
theorem dX13_wanted_1413 : decode cX13_wanted 1413 = .ok (.iconst 2, 1) := by decide +kernel
theorem dX13_wanted_1414 : decode cX13_wanted 1414 = .ok (.invokevirtual 1022, 3) := by decide +kernel
theorem dX13_wanted_1417 : decode cX13_wanted 1417 = .ok (.invokevirtual 913, 3) := by decide +kernel
theorem dX13_wanted_1420 : decode cX13_wanted 1420 = .ok (.invokevirtual 1028, 3) := by decide +kernel
theorem dX13_wanted_1423 : decode cX13_wanted 1423 = .ok (.ifCond .eq 7, 3) := by decide +kernel
theorem dX13_wanted_1426 : decode cX13_wanted 1426 = .ok (.iconst 1, 1) := by decide +kernel
theorem dX13_wanted_1427 : decode cX13_wanted 1427 = .ok (.goto 4, 3) := by decide +kernel
theorem dX13_wanted_1430 : decode cX13_wanted 1430 = .ok (.iconst 0, 1) := by decide +kernel
theorem dX13_wanted_1431 : decode cX13_wanted 1431 = .ok (.ireturn, 1) := by decide +kernel
theorem dX13_wanted_1432 : decode cX13_wanted 1432 = .ok (.aload_n 0, 1) := by decide +kernel
theorem dX13_wanted_1433 : decode cX13_wanted 1433 = .ok (.aload_n 0, 1) := by decide +kernel
theorem dX13_wanted_1434 : decode cX13_wanted 1434 = .ok (.aload_n 0, 1) := by decide +kernel
theorem dX13_wanted_1435 : decode cX13_wanted 1435 = .ok (.getfield 932, 3) := by decide +kernel
theorem dX13_wanted_1438 : decode cX13_wanted 1438 = .ok (.aload_n 0, 1) := by decide +kernel
theorem dX13_wanted_1439 : decode cX13_wanted 1439 = .ok (.iload_n 3, 1) := by decide +kernel
theorem dX13_wanted_1440 : decode cX13_wanted 1440 = .ok (.iconst 2, 1) := by decide +kernel
theorem dX13_wanted_1441 : decode cX13_wanted 1441 = .ok (.invokevirtual 1022, 3) := by decide +kernel
theorem dX13_wanted_1444 : decode cX13_wanted 1444 = .ok (.invokevirtual 913, 3) := by decide +kernel
theorem dX13_wanted_1447 : decode cX13_wanted 1447 = .ok (.invokevirtual 1037, 3) := by decide +kernel
theorem dX13_wanted_1450 : decode cX13_wanted 1450 = .ok (.ifCond .eq 28, 3) := by decide +kernel
theorem dX13_wanted_1453 : decode cX13_wanted 1453 = .ok (.aload_n 0, 1) := by decide +kernel
theorem dX13_wanted_1454 : decode cX13_wanted 1454 = .ok (.aload_n 0, 1) := by decide +kernel
theorem dX13_wanted_1455 : decode cX13_wanted 1455 = .ok (.aload_n 0, 1) := by decide +kernel
theorem dX13_wanted_1456 : decode cX13_wanted 1456 = .ok (.getfield 932, 3) := by decide +kernel
theorem dX13_wanted_1459 : decode cX13_wanted 1459 = .ok (.aload_n 0, 1) := by decide +kernel
theorem dX13_wanted_1460 : decode cX13_wanted 1460 = .ok (.iload_n 3, 1) := by decide +kernel
theorem dX13_wanted_1461 : decode cX13_wanted 1461 = .ok (.iconst 0, 1) := by decide +kernel
theorem dX13_wanted_1462 : decode cX13_wanted 1462 = .ok (.invokevirtual 1022, 3) := by decide +kernel
theorem dX13_wanted_1465 : decode cX13_wanted 1465 = .ok (.invokevirtual 952, 3) := by decide +kernel
theorem dX13_wanted_1468 : decode cX13_wanted 1468 = .ok (.invokevirtual 1037, 3) := by decide +kernel
theorem dX13_wanted_1471 : decode cX13_wanted 1471 = .ok (.ifCond .eq 7, 3) := by decide +kernel
theorem dX13_wanted_1474 : decode cX13_wanted 1474 = .ok (.iconst 1, 1) := by decide +kernel
theorem dX13_wanted_1475 : decode cX13_wanted 1475 = .ok (.goto 4, 3) := by decide +kernel
theorem dX13_wanted_1478 : decode cX13_wanted 1478 = .ok (.iconst 0, 1) := by decide +kernel
theorem dX13_wanted_1479 : decode cX13_wanted 1479 = .ok (.ireturn, 1) := by decide +kernel
theorem dX13_wanted_1480 : decode cX13_wanted 1480 = .ok (.aload_n 0, 1) := by decide +kernel
theorem dX13_wanted_1481 : decode cX13_wanted 1481 = .ok (.iload_n 3, 1) := by decide +kernel
theorem dX13_wanted_1482 : decode cX13_wanted 1482 = .ok (.iload_n 2, 1) := by decide +kernel
theorem dX13_wanted_1483 : decode cX13_wanted 1483 = .ok (.sipush 184, 3) := by decide +kernel
theorem dX13_wanted_1486 : decode cX13_wanted 1486 = .ok (.if_icmp .ne 7, 3) := by decide +kernel
theorem dX13_wanted_1489 : decode cX13_wanted 1489 = .ok (.iconst 1, 1) := by decide +kernel
theorem dX13_wanted_1490 : decode cX13_wanted 1490 = .ok (.goto 4, 3) := by decide +kernel
theorem dX13_wanted_1493 : decode cX13_wanted 1493 = .ok (.iconst 0, 1) := by decide +kernel
theorem dX13_wanted_1494 : decode cX13_wanted 1494 = .ok (.invokevirtual 1040, 3) := by decide +kernel
theorem dX13_wanted_1497 : decode cX13_wanted 1497 = .ok (.ireturn, 1) := by decide +kernel
theorem dX13_wanted_1498 : decode cX13_wanted 1498 = .ok (.aload_n 0, 1) := by decide +kernel
theorem dX13_wanted_1499 : decode cX13_wanted 1499 = .ok (.aload_n 0, 1) := by decide +kernel
theorem dX13_wanted_1500 : decode cX13_wanted 1500 = .ok (.aload_n 0, 1) := by decide +kernel
theorem dX13_wanted_1501 : decode cX13_wanted 1501 = .ok (.getfield 932, 3) := by decide +kernel
theorem dX13_wanted_1504 : decode cX13_wanted 1504 = .ok (.iload_n 3, 1) := by decide +kernel
theorem dX13_wanted_1505 : decode cX13_wanted 1505 = .ok (.invokevirtual 952, 3) := by decide +kernel
theorem dX13_wanted_1508 : decode cX13_wanted 1508 = .ok (.invokevirtual 1028, 3) := by decide +kernel
theorem dX13_wanted_1511 : decode cX13_wanted 1511 = .ok (.ireturn, 1) := by decide +kernel
theorem dX13_wanted_1512 : decode cX13_wanted 1512 = .ok (.aload_n 0, 1) := by decide +kernel
theorem dX13_wanted_1513 : decode cX13_wanted 1513 = .ok (.iconst 1, 1) := by decide +kernel
theorem dX13_wanted_1514 : decode cX13_wanted 1514 = .ok (.invokevirtual 1031, 3) := by decide +kernel
theorem dX13_wanted_1517 : decode cX13_wanted 1517 = .ok (.ifCond .eq 15, 3) := by decide +kernel
theorem dX13_wanted_1520 : decode cX13_wanted 1520 = .ok (.aload_n 0, 1) := by decide +kernel
theorem dX13_wanted_1521 : decode cX13_wanted 1521 = .ok (.iconst 3, 1) := by decide +kernel
theorem dX13_wanted_1522 : decode cX13_wanted 1522 = .ok (.invokevirtual 1028, 3) := by decide +kernel
theorem dX13_wanted_1525 : decode cX13_wanted 1525 = .ok (.ifCond .eq 7, 3) := by decide +kernel
theorem dX13_wanted_1528 : decode cX13_wanted 1528 = .ok (.iconst 1, 1) := by decide +kernel
theorem dX13_wanted_1529 : decode cX13_wanted 1529 = .ok (.goto 4, 3) := by decide +kernel
theorem dX13_wanted_1532 : decode cX13_wanted 1532 = .ok (.iconst 0, 1) := by decide +kernel
theorem dX13_wanted_1533 : decode cX13_wanted 1533 = .ok (.ireturn, 1) := by decide +kernel
theorem dX13_wanted_1534 : decode cX13_wanted 1534 = .ok (.aload_n 0, 1) := by decide +kernel
theorem dX13_wanted_1535 : decode cX13_wanted 1535 = .ok (.iconst 1, 1) := by decide +kernel
theorem dX13_wanted_1536 : decode cX13_wanted 1536 = .ok (.invokevirtual 1031, 3) := by decide +kernel
theorem dX13_wanted_1539 : decode cX13_wanted 1539 = .ok (.ifCond .eq 25, 3) := by decide +kernel
theorem dX13_wanted_1542 : decode cX13_wanted 1542 = .ok (.aload_n 0, 1) := by decide +kernel
theorem dX13_wanted_1543 : decode cX13_wanted 1543 = .ok (.aload_n 0, 1) := by decide +kernel
theorem dX13_wanted_1544 : decode cX13_wanted 1544 = .ok (.aload_n 0, 1) := by decide +kernel
theorem dX13_wanted_1545 : decode cX13_wanted 1545 = .ok (.getfield 932, 3) := by decide +kernel
theorem dX13_wanted_1548 : decode cX13_wanted 1548 = .ok (.iload_n 3, 1) := by decide +kernel
theorem dX13_wanted_1549 : decode cX13_wanted 1549 = .ok (.invokevirtual 952, 3) := by decide +kernel
theorem dX13_wanted_1552 : decode cX13_wanted 1552 = .ok (.iconst 1, 1) := by decide +kernel
theorem dX13_wanted_1553 : decode cX13_wanted 1553 = .ok (.iadd, 1) := by decide +kernel
theorem dX13_wanted_1554 : decode cX13_wanted 1554 = .ok (.invokevirtual 1028, 3) := by decide +kernel
theorem dX13_wanted_1557 : decode cX13_wanted 1557 = .ok (.ifCond .eq 7, 3) := by decide +kernel
theorem dX13_wanted_1560 : decode cX13_wanted 1560 = .ok (.iconst 1, 1) := by decide +kernel
theorem dX13_wanted_1561 : decode cX13_wanted 1561 = .ok (.goto 4, 3) := by decide +kernel
theorem dX13_wanted_1564 : decode cX13_wanted 1564 = .ok (.iconst 0, 1) := by decide +kernel
theorem dX13_wanted_1565 : decode cX13_wanted 1565 = .ok (.ireturn, 1) := by decide +kernel
theorem dX13_wanted_1566 : decode cX13_wanted 1566 = .ok (.aload_n 0, 1) := by decide +kernel
theorem dX13_wanted_1567 : decode cX13_wanted 1567 = .ok (.invokevirtual 1025, 3) := by decide +kernel
theorem dX13_wanted_1570 : decode cX13_wanted 1570 = .ok (.istore 4, 2) := by decide +kernel
theorem dX13_wanted_1572 : decode cX13_wanted 1572 = .ok (.iload 4, 2) := by decide +kernel
theorem dX13_wanted_1574 : decode cX13_wanted 1574 = .ok (.iconst 2, 1) := by decide +kernel
theorem dX13_wanted_1575 : decode cX13_wanted 1575 = .ok (.if_icmp .eq 17, 3) := by decide +kernel
theorem dX13_wanted_1578 : decode cX13_wanted 1578 = .ok (.iload 4, 2) := by decide +kernel
theorem dX13_wanted_1580 : decode cX13_wanted 1580 = .ok (.iconst (-1), 1) := by decide +kernel
theorem dX13_wanted_1581 : decode cX13_wanted 1581 = .ok (.if_icmp .eq 23, 3) := by decide +kernel
theorem dX13_wanted_1584 : decode cX13_wanted 1584 = .ok (.iload 4, 2) := by decide +kernel
theorem dX13_wanted_1586 : decode cX13_wanted 1586 = .ok (.invokestatic 888, 3) := by decide +kernel
theorem dX13_wanted_1589 : decode cX13_wanted 1589 = .ok (.ifCond .eq 15, 3) := by decide +kernel
theorem dX13_wanted_1592 : decode cX13_wanted 1592 = .ok (.aload_n 0, 1) := by decide +kernel
theorem dX13_wanted_1593 : decode cX13_wanted 1593 = .ok (.iconst 1, 1) := by decide +kernel
theorem dX13_wanted_1594 : decode cX13_wanted 1594 = .ok (.invokevirtual 1028, 3) := by decide +kernel
theorem dX13_wanted_1597 : decode cX13_wanted 1597 = .ok (.ifCond .eq 7, 3) := by decide +kernel
theorem dX13_wanted_1600 : decode cX13_wanted 1600 = .ok (.iconst 1, 1) := by decide +kernel
theorem dX13_wanted_1601 : decode cX13_wanted 1601 = .ok (.goto 4, 3) := by decide +kernel
theorem dX13_wanted_1604 : decode cX13_wanted 1604 = .ok (.iconst 0, 1) := by decide +kernel
theorem dX13_wanted_1605 : decode cX13_wanted 1605 = .ok (.ireturn, 1) := by decide +kernel
theorem dX13_wanted_1606 : decode cX13_wanted 1606 = .ok (.aload_n 0, 1) := by decide +kernel
theorem dX13_wanted_1607 : decode cX13_wanted 1607 = .ok (.bipush 6, 2) := by decide +kernel
theorem dX13_wanted_1609 : decode cX13_wanted 1609 = .ok (.invokevirtual 1037, 3) := by decide +kernel
theorem dX13_wanted_1612 : decode cX13_wanted 1612 = .ok (.ireturn, 1) := by decide +kernel
theorem dX13_wanted_1613 : decode cX13_wanted 1613 = .ok (.aload_n 0, 1) := by decide +kernel
theorem dX13_wanted_1614 : decode cX13_wanted 1614 = .ok (.invokevirtual 1034, 3) := by decide +kernel
theorem dX13_wanted_1617 : decode cX13_wanted 1617 = .ok (.ifCond .eq 23, 3) := by decide +kernel
theorem dX13_wanted_1620 : decode cX13_wanted 1620 = .ok (.aload_n 0, 1) := by decide +kernel
theorem dX13_wanted_1621 : decode cX13_wanted 1621 = .ok (.aload_n 0, 1) := by decide +kernel
theorem dX13_wanted_1622 : decode cX13_wanted 1622 = .ok (.aload_n 0, 1) := by decide +kernel
theorem dX13_wanted_1623 : decode cX13_wanted 1623 = .ok (.getfield 932, 3) := by decide +kernel
theorem dX13_wanted_1626 : decode cX13_wanted 1626 = .ok (.iload_n 3, 1) := by decide +kernel
theorem dX13_wanted_1627 : decode cX13_wanted 1627 = .ok (.invokevirtual 952, 3) := by decide +kernel
theorem dX13_wanted_1630 : decode cX13_wanted 1630 = .ok (.invokevirtual 1028, 3) := by decide +kernel
theorem dX13_wanted_1633 : decode cX13_wanted 1633 = .ok (.ifCond .eq 7, 3) := by decide +kernel
theorem dX13_wanted_1636 : decode cX13_wanted 1636 = .ok (.iconst 1, 1) := by decide +kernel
theorem dX13_wanted_1637 : decode cX13_wanted 1637 = .ok (.goto 4, 3) := by decide +kernel
theorem dX13_wanted_1640 : decode cX13_wanted 1640 = .ok (.iconst 0, 1) := by decide +kernel
theorem dX13_wanted_1641 : decode cX13_wanted 1641 = .ok (.ireturn, 1) := by decide +kernel
theorem dX13_wanted_1642 : decode cX13_wanted 1642 = .ok (.aload_n 0, 1) := by decide +kernel
theorem dX13_wanted_1643 : decode cX13_wanted 1643 = .ok (.invokevirtual 1034, 3) := by decide +kernel
theorem dX13_wanted_1646 : decode cX13_wanted 1646 = .ok (.ifCond .eq 15, 3) := by decide +kernel
theorem dX13_wanted_1649 : decode cX13_wanted 1649 = .ok (.aload_n 0, 1) := by decide +kernel
theorem dX13_wanted_1650 : decode cX13_wanted 1650 = .ok (.iconst 1, 1) := by decide +kernel
theorem dX13_wanted_1651 : decode cX13_wanted 1651 = .ok (.invokevirtual 1028, 3) := by decide +kernel
theorem dX13_wanted_1654 : decode cX13_wanted 1654 = .ok (.ifCond .eq 7, 3) := by decide +kernel
theorem dX13_wanted_1657 : decode cX13_wanted 1657 = .ok (.iconst 1, 1) := by decide +kernel
theorem dX13_wanted_1658 : decode cX13_wanted 1658 = .ok (.goto 4, 3) := by decide +kernel
theorem dX13_wanted_1661 : decode cX13_wanted 1661 = .ok (.iconst 0, 1) := by decide +kernel
theorem dX13_wanted_1662 : decode cX13_wanted 1662 = .ok (.ireturn, 1) := by decide +kernel
