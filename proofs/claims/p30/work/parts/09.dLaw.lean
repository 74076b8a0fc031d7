theorem dL_law_822 : decode cL_law 822 = .ok (.istore 15, 2) := by decide +kernel
theorem dL_law_824 : decode cL_law 824 = .ok (.aload_n 1, 1) := by decide +kernel
theorem dL_law_825 : decode cL_law 825 = .ok (.invokevirtual 70, 3) := by decide +kernel
theorem dL_law_828 : decode cL_law 828 = .ok (.lload 5, 2) := by decide +kernel
theorem dL_law_830 : decode cL_law 830 = .ok (.lcmp, 1) := by decide +kernel
theorem dL_law_831 : decode cL_law 831 = .ok (.ifCond .ne 46, 3) := by decide +kernel
theorem dL_law_834 : decode cL_law 834 = .ok (.iload 12, 2) := by decide +kernel
theorem dL_law_836 : decode cL_law 836 = .ok (.ifCond .eq 41, 3) := by decide +kernel
theorem dL_law_839 : decode cL_law 839 = .ok (.iload 12, 2) := by decide +kernel
theorem dL_law_841 : decode cL_law 841 = .ok (.bipush 100, 2) := by decide +kernel
theorem dL_law_843 : decode cL_law 843 = .ok (.if_icmp .gt 34, 3) := by decide +kernel
theorem dL_law_846 : decode cL_law 846 = .ok (.iload 7, 2) := by decide +kernel
theorem dL_law_848 : decode cL_law 848 = .ok (.ifCond .le 18, 3) := by decide +kernel
theorem dL_law_851 : decode cL_law 851 = .ok (.iload 15, 2) := by decide +kernel
theorem dL_law_853 : decode cL_law 853 = .ok (.ifCond .lt 24, 3) := by decide +kernel
theorem dL_law_856 : decode cL_law 856 = .ok (.aload_n 1, 1) := by decide +kernel
theorem dL_law_857 : decode cL_law 857 = .ok (.iload 15, 2) := by decide +kernel
theorem dL_law_859 : decode cL_law 859 = .ok (.invokevirtual 93, 3) := by decide +kernel
theorem dL_law_862 : decode cL_law 862 = .ok (.iconst 1, 1) := by decide +kernel
theorem dL_law_863 : decode cL_law 863 = .ok (.if_icmp .gt 14, 3) := by decide +kernel
theorem dL_law_866 : decode cL_law 866 = .ok (.iload 7, 2) := by decide +kernel
theorem dL_law_868 : decode cL_law 868 = .ok (.ifCond .ne 11, 3) := by decide +kernel
theorem dL_law_871 : decode cL_law 871 = .ok (.iload 15, 2) := by decide +kernel
theorem dL_law_873 : decode cL_law 873 = .ok (.iconst (-1), 1) := by decide +kernel
theorem dL_law_874 : decode cL_law 874 = .ok (.if_icmp .eq 5, 3) := by decide +kernel
theorem dL_law_877 : decode cL_law 877 = .ok (.iconst 0, 1) := by decide +kernel
theorem dL_law_878 : decode cL_law 878 = .ok (.ireturn, 1) := by decide +kernel
theorem dL_law_879 : decode cL_law 879 = .ok (.iconst 0, 1) := by decide +kernel
theorem dL_law_880 : decode cL_law 880 = .ok (.istore 16, 2) := by decide +kernel
theorem dL_law_882 : decode cL_law 882 = .ok (.iconst 1, 1) := by decide +kernel
theorem dL_law_883 : decode cL_law 883 = .ok (.istore 17, 2) := by decide +kernel
theorem dL_law_885 : decode cL_law 885 = .ok (.iload 17, 2) := by decide +kernel
theorem dL_law_887 : decode cL_law 887 = .ok (.iload 11, 2) := by decide +kernel
theorem dL_law_889 : decode cL_law 889 = .ok (.if_icmp .gt 267, 3) := by decide +kernel
theorem dL_law_892 : decode cL_law 892 = .ok (.iload 7, 2) := by decide +kernel
theorem dL_law_894 : decode cL_law 894 = .ok (.newarray .int, 2) := by decide +kernel
theorem dL_law_896 : decode cL_law 896 = .ok (.astore 18, 2) := by decide +kernel
theorem dL_law_898 : decode cL_law 898 = .ok (.iload 7, 2) := by decide +kernel
theorem dL_law_900 : decode cL_law 900 = .ok (.newarray .int, 2) := by decide +kernel
theorem dL_law_902 : decode cL_law 902 = .ok (.astore 19, 2) := by decide +kernel
theorem dL_law_904 : decode cL_law 904 = .ok (.iload 7, 2) := by decide +kernel
theorem dL_law_906 : decode cL_law 906 = .ok (.newarray .int, 2) := by decide +kernel
theorem dL_law_908 : decode cL_law 908 = .ok (.astore 20, 2) := by decide +kernel
theorem dL_law_910 : decode cL_law 910 = .ok (.iconst 0, 1) := by decide +kernel
theorem dL_law_911 : decode cL_law 911 = .ok (.istore 21, 2) := by decide +kernel
theorem dL_law_913 : decode cL_law 913 = .ok (.iload 21, 2) := by decide +kernel
theorem dL_law_915 : decode cL_law 915 = .ok (.iload 7, 2) := by decide +kernel
theorem dL_law_917 : decode cL_law 917 = .ok (.if_icmp .ge 42, 3) := by decide +kernel
theorem dL_law_920 : decode cL_law 920 = .ok (.aload 18, 2) := by decide +kernel
theorem dL_law_922 : decode cL_law 922 = .ok (.iload 21, 2) := by decide +kernel
theorem dL_law_924 : decode cL_law 924 = .ok (.aload_n 1, 1) := by decide +kernel
theorem dL_law_925 : decode cL_law 925 = .ok (.iload 21, 2) := by decide +kernel
theorem dL_law_927 : decode cL_law 927 = .ok (.invokevirtual 114, 3) := by decide +kernel
theorem dL_law_930 : decode cL_law 930 = .ok (.iastore, 1) := by decide +kernel
theorem dL_law_931 : decode cL_law 931 = .ok (.aload 19, 2) := by decide +kernel
theorem dL_law_933 : decode cL_law 933 = .ok (.iload 21, 2) := by decide +kernel
theorem dL_law_935 : decode cL_law 935 = .ok (.aload_n 1, 1) := by decide +kernel
theorem dL_law_936 : decode cL_law 936 = .ok (.iload 21, 2) := by decide +kernel
theorem dL_law_938 : decode cL_law 938 = .ok (.invokevirtual 90, 3) := by decide +kernel
theorem dL_law_941 : decode cL_law 941 = .ok (.iastore, 1) := by decide +kernel
theorem dL_law_942 : decode cL_law 942 = .ok (.aload 20, 2) := by decide +kernel
theorem dL_law_944 : decode cL_law 944 = .ok (.iload 21, 2) := by decide +kernel
theorem dL_law_946 : decode cL_law 946 = .ok (.aload_n 1, 1) := by decide +kernel
theorem dL_law_947 : decode cL_law 947 = .ok (.iload 21, 2) := by decide +kernel
theorem dL_law_949 : decode cL_law 949 = .ok (.invokevirtual 111, 3) := by decide +kernel
theorem dL_law_952 : decode cL_law 952 = .ok (.iastore, 1) := by decide +kernel
theorem dL_law_953 : decode cL_law 953 = .ok (.iinc 21 1, 3) := by decide +kernel
theorem dL_law_956 : decode cL_law 956 = .ok (.goto (-43), 3) := by decide +kernel
theorem dL_law_959 : decode cL_law 959 = .ok (.aload_n 1, 1) := by decide +kernel
theorem dL_law_960 : decode cL_law 960 = .ok (.invokevirtual 105, 3) := by decide +kernel
theorem dL_law_963 : decode cL_law 963 = .ok (.iconst 5, 1) := by decide +kernel
theorem dL_law_964 : decode cL_law 964 = .ok (.irem, 1) := by decide +kernel
theorem dL_law_965 : decode cL_law 965 = .ok (.iconst 4, 1) := by decide +kernel
theorem dL_law_966 : decode cL_law 966 = .ok (.if_icmp .ne 7, 3) := by decide +kernel
theorem dL_law_969 : decode cL_law 969 = .ok (.iconst 1, 1) := by decide +kernel
theorem dL_law_970 : decode cL_law 970 = .ok (.goto 4, 3) := by decide +kernel
theorem dL_law_973 : decode cL_law 973 = .ok (.iconst 0, 1) := by decide +kernel
theorem dL_law_974 : decode cL_law 974 = .ok (.istore 21, 2) := by decide +kernel
theorem dL_law_976 : decode cL_law 976 = .ok (.aload_n 1, 1) := by decide +kernel
theorem dL_law_977 : decode cL_law 977 = .ok (.iconst 1, 1) := by decide +kernel
theorem dL_law_978 : decode cL_law 978 = .ok (.invokevirtual 50, 3) := by decide +kernel
theorem dL_law_981 : decode cL_law 981 = .ok (.istore 22, 2) := by decide +kernel
theorem dL_law_983 : decode cL_law 983 = .ok (.iload 22, 2) := by decide +kernel
theorem dL_law_985 : decode cL_law 985 = .ok (.aload_n 2, 1) := by decide +kernel
theorem dL_law_986 : decode cL_law 986 = .ok (.invokevirtual 142, 3) := by decide +kernel
theorem dL_law_989 : decode cL_law 989 = .ok (.if_icmp .eq 5, 3) := by decide +kernel
theorem dL_law_992 : decode cL_law 992 = .ok (.iconst 0, 1) := by decide +kernel
theorem dL_law_993 : decode cL_law 993 = .ok (.ireturn, 1) := by decide +kernel
theorem dL_law_994 : decode cL_law 994 = .ok (.iconst 0, 1) := by decide +kernel
theorem dL_law_995 : decode cL_law 995 = .ok (.istore 23, 2) := by decide +kernel
theorem dL_law_997 : decode cL_law 997 = .ok (.iload 23, 2) := by decide +kernel
theorem dL_law_999 : decode cL_law 999 = .ok (.iload 7, 2) := by decide +kernel
theorem dL_law_1001 : decode cL_law 1001 = .ok (.if_icmp .ge 98, 3) := by decide +kernel
theorem dL_law_1004 : decode cL_law 1004 = .ok (.iload 22, 2) := by decide +kernel
theorem dL_law_1006 : decode cL_law 1006 = .ok (.aload 18, 2) := by decide +kernel
theorem dL_law_1008 : decode cL_law 1008 = .ok (.iload 23, 2) := by decide +kernel
theorem dL_law_1010 : decode cL_law 1010 = .ok (.iaload, 1) := by decide +kernel
theorem dL_law_1011 : decode cL_law 1011 = .ok (.ifCond .ne 7, 3) := by decide +kernel
theorem dL_law_1014 : decode cL_law 1014 = .ok (.iconst 1, 1) := by decide +kernel
theorem dL_law_1015 : decode cL_law 1015 = .ok (.goto 4, 3) := by decide +kernel
theorem dL_law_1018 : decode cL_law 1018 = .ok (.iconst 0, 1) := by decide +kernel
theorem dL_law_1019 : decode cL_law 1019 = .ok (.isub, 1) := by decide +kernel
theorem dL_law_1020 : decode cL_law 1020 = .ok (.istore 22, 2) := by decide +kernel
theorem dL_law_1022 : decode cL_law 1022 = .ok (.aload 20, 2) := by decide +kernel
theorem dL_law_1024 : decode cL_law 1024 = .ok (.iload 23, 2) := by decide +kernel
theorem dL_law_1026 : decode cL_law 1026 = .ok (.iaload, 1) := by decide +kernel
theorem dL_law_1027 : decode cL_law 1027 = .ok (.aload 18, 2) := by decide +kernel
theorem dL_law_1029 : decode cL_law 1029 = .ok (.iload 23, 2) := by decide +kernel
theorem dL_law_1031 : decode cL_law 1031 = .ok (.iaload, 1) := by decide +kernel
theorem dL_law_1032 : decode cL_law 1032 = .ok (.iconst 2, 1) := by decide +kernel
theorem dL_law_1033 : decode cL_law 1033 = .ok (.if_icmp .ne 7, 3) := by decide +kernel
theorem dL_law_1036 : decode cL_law 1036 = .ok (.iconst 1, 1) := by decide +kernel
theorem dL_law_1037 : decode cL_law 1037 = .ok (.goto 4, 3) := by decide +kernel
theorem dL_law_1040 : decode cL_law 1040 = .ok (.iconst 2, 1) := by decide +kernel
theorem dL_law_1041 : decode cL_law 1041 = .ok (.iadd, 1) := by decide +kernel
theorem dL_law_1042 : decode cL_law 1042 = .ok (.istore 24, 2) := by decide +kernel
theorem dL_law_1044 : decode cL_law 1044 = .ok (.aload_n 1, 1) := by decide +kernel
theorem dL_law_1045 : decode cL_law 1045 = .ok (.iload 23, 2) := by decide +kernel
theorem dL_law_1047 : decode cL_law 1047 = .ok (.invokevirtual 90, 3) := by decide +kernel
theorem dL_law_1050 : decode cL_law 1050 = .ok (.aload 19, 2) := by decide +kernel
theorem dL_law_1052 : decode cL_law 1052 = .ok (.iload 23, 2) := by decide +kernel
theorem dL_law_1054 : decode cL_law 1054 = .ok (.iaload, 1) := by decide +kernel
theorem dL_law_1055 : decode cL_law 1055 = .ok (.aload 18, 2) := by decide +kernel
theorem dL_law_1057 : decode cL_law 1057 = .ok (.iload 23, 2) := by decide +kernel
theorem dL_law_1059 : decode cL_law 1059 = .ok (.iaload, 1) := by decide +kernel
theorem dL_law_1060 : decode cL_law 1060 = .ok (.iadd, 1) := by decide +kernel
theorem dL_law_1061 : decode cL_law 1061 = .ok (.if_icmp .ne 30, 3) := by decide +kernel
theorem dL_law_1064 : decode cL_law 1064 = .ok (.aload_n 1, 1) := by decide +kernel
theorem dL_law_1065 : decode cL_law 1065 = .ok (.iload 23, 2) := by decide +kernel
theorem dL_law_1067 : decode cL_law 1067 = .ok (.invokevirtual 111, 3) := by decide +kernel
theorem dL_law_1070 : decode cL_law 1070 = .ok (.iload 21, 2) := by decide +kernel
theorem dL_law_1072 : decode cL_law 1072 = .ok (.ifCond .eq 14, 3) := by decide +kernel
theorem dL_law_1075 : decode cL_law 1075 = .ok (.iconst 0, 1) := by decide +kernel
theorem dL_law_1076 : decode cL_law 1076 = .ok (.iload 24, 2) := by decide +kernel
theorem dL_law_1078 : decode cL_law 1078 = .ok (.iconst 3, 1) := by decide +kernel
theorem dL_law_1079 : decode cL_law 1079 = .ok (.isub, 1) := by decide +kernel
theorem dL_law_1080 : decode cL_law 1080 = .ok (.invokestatic 84, 3) := by decide +kernel
theorem dL_law_1083 : decode cL_law 1083 = .ok (.goto 5, 3) := by decide +kernel
theorem dL_law_1086 : decode cL_law 1086 = .ok (.iload 24, 2) := by decide +kernel
theorem dL_law_1088 : decode cL_law 1088 = .ok (.if_icmp .eq 5, 3) := by decide +kernel
theorem dL_law_1091 : decode cL_law 1091 = .ok (.iconst 0, 1) := by decide +kernel
theorem dL_law_1092 : decode cL_law 1092 = .ok (.ireturn, 1) := by decide +kernel
theorem dL_law_1093 : decode cL_law 1093 = .ok (.iinc 23 1, 3) := by decide +kernel
theorem dL_law_1096 : decode cL_law 1096 = .ok (.goto (-99), 3) := by decide +kernel
theorem dL_law_1099 : decode cL_law 1099 = .ok (.iload 22, 2) := by decide +kernel
theorem dL_law_1101 : decode cL_law 1101 = .ok (.ifCond .eq 5, 3) := by decide +kernel
theorem dL_law_1104 : decode cL_law 1104 = .ok (.iconst 0, 1) := by decide +kernel
theorem dL_law_1105 : decode cL_law 1105 = .ok (.ireturn, 1) := by decide +kernel
theorem dL_law_1106 : decode cL_law 1106 = .ok (.iload 10, 2) := by decide +kernel
theorem dL_law_1108 : decode cL_law 1108 = .ok (.ifCond .lt 42, 3) := by decide +kernel
theorem dL_law_1111 : decode cL_law 1111 = .ok (.iload 16, 2) := by decide +kernel
theorem dL_law_1113 : decode cL_law 1113 = .ok (.ifCond .ne 37, 3) := by decide +kernel
theorem dL_law_1116 : decode cL_law 1116 = .ok (.aload 18, 2) := by decide +kernel
theorem dL_law_1118 : decode cL_law 1118 = .ok (.iload 10, 2) := by decide +kernel
theorem dL_law_1120 : decode cL_law 1120 = .ok (.iaload, 1) := by decide +kernel
theorem dL_law_1121 : decode cL_law 1121 = .ok (.ifCond .ne 7, 3) := by decide +kernel
theorem dL_law_1124 : decode cL_law 1124 = .ok (.iconst 1, 1) := by decide +kernel
theorem dL_law_1125 : decode cL_law 1125 = .ok (.goto 4, 3) := by decide +kernel
theorem dL_law_1128 : decode cL_law 1128 = .ok (.iconst 0, 1) := by decide +kernel
theorem dL_law_1129 : decode cL_law 1129 = .ok (.istore 16, 2) := by decide +kernel
theorem dL_law_1131 : decode cL_law 1131 = .ok (.iload 16, 2) := by decide +kernel
theorem dL_law_1133 : decode cL_law 1133 = .ok (.iload 12, 2) := by decide +kernel
theorem dL_law_1135 : decode cL_law 1135 = .ok (.iload 17, 2) := by decide +kernel
theorem dL_law_1137 : decode cL_law 1137 = .ok (.if_icmp .ne 7, 3) := by decide +kernel
theorem dL_law_1140 : decode cL_law 1140 = .ok (.iconst 1, 1) := by decide +kernel
theorem dL_law_1141 : decode cL_law 1141 = .ok (.goto 4, 3) := by decide +kernel
theorem dL_law_1144 : decode cL_law 1144 = .ok (.iconst 0, 1) := by decide +kernel
theorem dL_law_1145 : decode cL_law 1145 = .ok (.if_icmp .eq 5, 3) := by decide +kernel
theorem dL_law_1148 : decode cL_law 1148 = .ok (.iconst 0, 1) := by decide +kernel
theorem dL_law_1149 : decode cL_law 1149 = .ok (.ireturn, 1) := by decide +kernel
theorem dL_law_1150 : decode cL_law 1150 = .ok (.iinc 17 1, 3) := by decide +kernel
theorem dL_law_1153 : decode cL_law 1153 = .ok (.goto (-268), 3) := by decide +kernel
theorem dL_law_1156 : decode cL_law 1156 = .ok (.iload 10, 2) := by decide +kernel
theorem dL_law_1158 : decode cL_law 1158 = .ok (.ifCond .lt 14, 3) := by decide +kernel
theorem dL_law_1161 : decode cL_law 1161 = .ok (.aload_n 1, 1) := by decide +kernel
theorem dL_law_1162 : decode cL_law 1162 = .ok (.iload 10, 2) := by decide +kernel
theorem dL_law_1164 : decode cL_law 1164 = .ok (.invokevirtual 90, 3) := by decide +kernel
theorem dL_law_1167 : decode cL_law 1167 = .ok (.iload 13, 2) := by decide +kernel
theorem dL_law_1169 : decode cL_law 1169 = .ok (.if_icmp .ne 12, 3) := by decide +kernel
theorem dL_law_1172 : decode cL_law 1172 = .ok (.aload_n 1, 1) := by decide +kernel
theorem dL_law_1173 : decode cL_law 1173 = .ok (.invokevirtual 96, 3) := by decide +kernel
theorem dL_law_1176 : decode cL_law 1176 = .ok (.iload 14, 2) := by decide +kernel
theorem dL_law_1178 : decode cL_law 1178 = .ok (.if_icmp .eq 5, 3) := by decide +kernel
theorem dL_law_1181 : decode cL_law 1181 = .ok (.iconst 0, 1) := by decide +kernel
theorem dL_law_1182 : decode cL_law 1182 = .ok (.ireturn, 1) := by decide +kernel
theorem dL_law_1183 : decode cL_law 1183 = .ok (.iinc 3 1, 3) := by decide +kernel
theorem dL_law_1186 : decode cL_law 1186 = .ok (.goto (-1164), 3) := by decide +kernel
theorem dL_law_1189 : decode cL_law 1189 = .ok (.aload_n 2, 1) := by decide +kernel
theorem dL_law_1190 : decode cL_law 1190 = .ok (.aload_n 1, 1) := by decide +kernel
theorem dL_law_1191 : decode cL_law 1191 = .ok (.invokevirtual 144, 3) := by decide +kernel
theorem dL_law_1194 : decode cL_law 1194 = .ok (.ireturn, 1) := by decide +kernel
